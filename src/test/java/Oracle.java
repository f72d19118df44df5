import java.util.ArrayList;
import java.util.Arrays;
import java.util.HashMap;
import java.util.HashSet;
import java.util.List;
import java.util.Map;
import java.util.Set;
import java.util.TreeMap;

/** The document once more, as plainly as can be and with no heed to speed: what RandomTest asks. */
final class Oracle {
    static final int NONE = -1;
    private static final List<String> OWN = List.of("kind", "con", "match", "arm", "when", "rule", "budget", "num",
        "any", "or", "to");

    /** A fault, told by throwing it. */
    private static final class Bad extends RuntimeException {
        final int number;
        final int at;

        Bad(int number, int at) {
            super(null, null, false, false);
            this.number = number;
            this.at = at;
        }
    }

    private record Value(int number, String con, List<Value> fields) {
        String text() {
            if (con == null) {
                return "" + number;
            }
            List<String> inner = new ArrayList<>();
            fields.forEach(f -> inner.add(f.text()));
            return inner.isEmpty() ? con : con + "(" + String.join(",", inner) + ")";
        }
    }

    private interface Pattern {
        boolean fits(Value v);
    }

    private static final class Con {
        String name;
        List<Kind> fields = new ArrayList<>();
    }

    private static final class Kind {
        String name;
        List<Con> cons = new ArrayList<>();

        List<Value> values() {
            List<Value> all = new ArrayList<>();
            if (name == null) {
                for (int i = 0; i < 20; i++) {
                    all.add(new Value(i, null, List.of()));
                }
            }
            for (Con c : cons) {
                if (c.fields.isEmpty()) {
                    all.add(new Value(0, c.name, List.of()));
                } else {
                    for (Value a : c.fields.get(0).values()) {
                        if (c.fields.size() == 1) {
                            all.add(new Value(0, c.name, List.of(a)));
                        } else {
                            for (Value b : c.fields.get(1).values()) {
                                all.add(new Value(0, c.name, List.of(a, b)));
                            }
                        }
                    }
                }
            }
            return all;
        }

        int count() {
            if (name == null) {
                return 20;
            }
            int sum = 0;
            for (Con c : cons) {
                int product = 1;
                for (Kind f : c.fields) {
                    product *= f.count();
                }
                sum += product;
            }
            return sum;
        }
    }

    private static final Kind NUM = new Kind();

    private static final class Arm {
        int told;
        int guard = NONE;
        List<Pattern> patterns = new ArrayList<>();
        List<boolean[]> fit = new ArrayList<>();
    }

    private static final class Match {
        List<Kind> kinds = new ArrayList<>();
        List<Con> cons = new ArrayList<>();
        List<Kind> columns;
        List<List<Value>> values = new ArrayList<>();
        List<Arm> arms = new ArrayList<>();
        int rule;
        int budget = 300;
        int statements;
        int rows = 1;

        int[] row(int number) {
            int[] r = new int[columns.size()];
            for (int c = r.length - 1; c >= 0; c--) {
                r[c] = number % values.get(c).size();
                number /= values.get(c).size();
            }
            return r;
        }

        boolean fits(Arm a, int number) {
            int[] r = row(number);
            for (int c = 0; c < r.length; c++) {
                if (!a.fit.get(c)[r[c]]) {
                    return false;
                }
            }
            return true;
        }
    }

    // ---- texts

    private record Token(String text, int at) {
    }

    private static final class Text {
        final String all;
        int next;
        boolean word;

        Text(String all) {
            this.all = all;
        }

        int skip() {
            int at = next;
            while (at < all.length() && " \n".indexOf(all.charAt(at)) >= 0) {
                at++;
            }
            return at;
        }

        Token peek() {
            int at = skip();
            if (at == all.length()) {
                return new Token("", at);
            }
            String letters = "abcdefghijklmnopqrstuvwxyz";
            String digits = "0123456789";
            for (String set : List.of(letters, digits)) {
                if (set.indexOf(all.charAt(at)) >= 0) {
                    if (word && at == next) {
                        throw new Bad(1, at);
                    }
                    int end = at;
                    while (end < all.length() && set.indexOf(all.charAt(end)) >= 0) {
                        end++;
                    }
                    int most = set == letters ? 6 : 4;
                    if (end - at > most) {
                        throw new Bad(1, at + most);
                    }
                    return new Token(all.substring(at, end), at);
                }
            }
            return new Token(all.substring(at, at + 1), at);
        }

        Token take() {
            Token t = peek();
            next = t.at + t.text.length();
            word = t.text.length() > 1 || !t.text.isEmpty() && Character.isLetterOrDigit(t.text.charAt(0));
            return t;
        }

        boolean goes(String text) {
            if (!peek().text.equals(text)) {
                return false;
            }
            take();
            return true;
        }

        void must(String text) {
            Token t = peek();
            if (!goes(text)) {
                throw new Bad(1, t.at);
            }
        }

        Token name() {
            Token t = peek();
            if (!t.text.matches("[a-z]+") || OWN.contains(t.text)) {
                throw new Bad(1, t.at);
            }
            return take();
        }

        int number(int low, int high) {
            Token t = peek();
            if (!t.text.matches("[0-9]+")) {
                throw new Bad(1, t.at);
            }
            int n = Integer.parseInt(t.text);
            if (n < low || n > high) {
                throw new Bad(4, t.at);
            }
            take();
            return n;
        }

        boolean kindNext() {
            String t = peek().text;
            return t.equals("num") || t.matches("[a-z]+") && !OWN.contains(t);
        }
    }

    private static Match parse(String all) {
        Text t = new Text(all);
        Match m = new Match();
        while (t.skip() < all.length()) {
            if (m.statements == 60) {
                throw new Bad(6, t.skip());
            }
            Token first = t.take();
            switch (first.text) {
                case "kind" -> kind(t, m, first.at);
                case "con" -> con(t, m, first.at);
                case "match" -> columns(t, m, first.at);
                case "arm" -> arm(t, m, first.at);
                case "rule" -> m.rule = t.number(0, 3);
                case "budget" -> m.budget = t.number(1, 999);
                default -> throw new Bad(1, first.at);
            }
            t.must(";");
            m.statements++;
        }
        if (m.columns == null) {
            throw new Bad(1, all.length());
        }
        for (Kind k : m.columns) {
            m.values.add(k.values());
            m.rows *= k.count();
        }
        for (Arm a : m.arms) {
            for (int c = 0; c < m.columns.size(); c++) {
                List<Value> values = m.values.get(c);
                boolean[] fit = new boolean[values.size()];
                for (int v = 0; v < fit.length; v++) {
                    fit[v] = a.patterns.get(c).fits(values.get(v));
                }
                a.fit.add(fit);
            }
        }
        return m;
    }

    private static void newName(Match m, Token t) {
        for (Kind k : m.kinds) {
            if (k.name.equals(t.text)) {
                throw new Bad(2, t.at);
            }
        }
        for (Con c : m.cons) {
            if (c.name.equals(t.text)) {
                throw new Bad(2, t.at);
            }
        }
    }

    private static void kind(Text t, Match m, int at) {
        if (m.columns != null) {
            throw new Bad(1, at);
        }
        if (m.kinds.size() == 4) {
            throw new Bad(6, at);
        }
        Token n = t.name();
        newName(m, n);
        Kind k = new Kind();
        k.name = n.text;
        m.kinds.add(k);
    }

    private static void con(Text t, Match m, int at) {
        if (m.columns != null || m.kinds.isEmpty()) {
            throw new Bad(1, at);
        }
        Kind latest = m.kinds.get(m.kinds.size() - 1);
        if (latest.cons.size() == 6) {
            throw new Bad(6, at);
        }
        Token n = t.name();
        newName(m, n);
        Con c = new Con();
        c.name = n.text;
        int before = latest.count();
        int its = 1;
        while (t.kindNext()) {
            Token f = t.take();
            if (c.fields.size() == 2) {
                throw new Bad(6, f.at);
            }
            Kind k = kindNamed(m, f, latest);
            its *= k.count();
            if (before + its > 2000) {
                throw new Bad(4, f.at);
            }
            c.fields.add(k);
        }
        latest.cons.add(c);
        m.cons.add(c);
    }

    private static Kind kindNamed(Match m, Token f, Kind but) {
        if (f.text.equals("num")) {
            return NUM;
        }
        for (Kind k : m.kinds) {
            if (k != but && k.name.equals(f.text) && !k.cons.isEmpty()) {
                return k;
            }
        }
        throw new Bad(3, f.at);
    }

    private static void columns(Text t, Match m, int at) {
        if (m.columns != null) {
            throw new Bad(6, at);
        }
        List<Kind> columns = new ArrayList<>();
        long rows = 1;
        if (!t.kindNext()) {
            throw new Bad(1, t.peek().at);
        }
        while (t.kindNext()) {
            Token f = t.take();
            if (columns.size() == 4) {
                throw new Bad(6, f.at);
            }
            Kind k = kindNamed(m, f, null);
            rows *= k.count();
            if (rows > 20000) {
                throw new Bad(4, f.at);
            }
            columns.add(k);
        }
        m.columns = columns;
    }

    private static void arm(Text t, Match m, int at) {
        if (m.columns == null) {
            throw new Bad(1, at);
        }
        if (m.arms.size() == 12) {
            throw new Bad(6, at);
        }
        Arm a = new Arm();
        a.told = m.arms.size();
        for (int c = 0; c < m.columns.size(); c++) {
            if (c > 0) {
                t.must(",");
            }
            a.patterns.add(pattern(t, m.columns.get(c)));
        }
        if (t.goes("when")) {
            a.guard = t.number(0, 7);
        }
        m.arms.add(a);
    }

    private static Pattern pattern(Text t, Kind k) {
        List<Pattern> alternatives = new ArrayList<>();
        do {
            alternatives.add(alternative(t, k));
        } while (t.goes("or"));
        return v -> alternatives.stream().anyMatch(p -> p.fits(v));
    }

    private static Pattern alternative(Text t, Kind k) {
        if (t.goes("any")) {
            return v -> true;
        }
        if (k == NUM) {
            int low = t.number(0, 19);
            int high = t.goes("to") ? t.number(low, 19) : low;
            return v -> v.number >= low && v.number <= high;
        }
        Con c = conNamed(t, k);
        List<Pattern> fields = new ArrayList<>();
        for (int i = 0; i < c.fields.size(); i++) {
            t.must(i == 0 ? "(" : ",");
            fields.add(pattern(t, c.fields.get(i)));
        }
        if (!fields.isEmpty()) {
            t.must(")");
        }
        return v -> {
            boolean good = v.con.equals(c.name);
            for (int i = 0; good && i < fields.size(); i++) {
                good = fields.get(i).fits(v.fields.get(i));
            }
            return good;
        };
    }

    private static Con conNamed(Text t, Kind k) {
        Token n = t.name();
        for (Con c : k.cons) {
            if (c.name.equals(n.text)) {
                return c;
            }
        }
        throw new Bad(3, n.at);
    }

    private static Value value(Text t, Kind k) {
        if (k == NUM) {
            return new Value(t.number(0, 19), null, List.of());
        }
        Con c = conNamed(t, k);
        List<Value> fields = new ArrayList<>();
        for (int i = 0; i < c.fields.size(); i++) {
            t.must(i == 0 ? "(" : ",");
            fields.add(value(t, c.fields.get(i)));
        }
        if (!fields.isEmpty()) {
            t.must(")");
        }
        return new Value(0, c.name, fields);
    }

    // ---- state

    /** What acts change. */
    private record State(List<Arm> arms, int on, int rule, List<int[]> kept) {
    }

    private List<Integer> tape = new ArrayList<>();
    private Match m;
    private State now = new State(List.of(), 0, 0, List.of());
    private List<State> past = new ArrayList<>();
    private List<Integer> written = List.of();
    private List<int[]> seenRows = List.of();
    private List<Arm> seenArms = List.of();
    private long seed = 1;
    private int fault;
    private int place = NONE;
    private final int[] refused = new int[6];

    private boolean no(int which) {
        refused[which]++;
        return false;
    }

    private int none(int which) {
        refused[which]++;
        return NONE;
    }

    private String takeTape() {
        StringBuilder s = new StringBuilder();
        tape.forEach(b -> s.append((char) (int) b));
        tape = new ArrayList<>();
        return s.toString();
    }

    public int feed(int a, int b, int c, int d, int e) {
        if (tape.size() > 1580) {
            return none(0);
        }
        for (int n : new int[] {a, b, c, d, e}) {
            for (int i = 24; i >= 0; i -= 8) {
                tape.add(n >>> i & 255);
            }
        }
        return tape.size();
    }

    public boolean end(int n) {
        if (n < 0 || n > tape.size()) {
            return no(0);
        }
        tape = new ArrayList<>(tape.subList(0, n));
        return true;
    }

    public int match() {
        try {
            fault = 0;
            place = NONE;
            m = parse(takeTape());
        } catch (Bad b) {
            fault = b.number;
            place = b.at;
            return none(1);
        }
        now = new State(m.arms, 255, m.rule, List.of());
        past = new ArrayList<>();
        seenRows = List.of();
        seenArms = List.of();
        return m.statements;
    }

    public int fault(int what) {
        return what == 0 ? fault : what == 1 ? place : NONE;
    }

    public int has(int what) {
        if (m == null) {
            return what == 10 ? (int) seed : what < 0 || what > 10 ? NONE : 0;
        }
        return switch (what) {
            case 0 -> m.kinds.size();
            case 1 -> m.cons.size();
            case 2 -> m.columns.size();
            case 3 -> m.rows;
            case 4 -> now.arms.size();
            case 5 -> now.on;
            case 6 -> now.rule;
            case 7 -> Math.min(40, now.kept.size());
            case 8 -> seenRows.size();
            case 9 -> past.size();
            case 10 -> (int) seed;
            default -> NONE;
        };
    }

    public int letter(int kind, int which, int k) {
        if (m == null || k < 0 || k > 5 || which < 0 || kind < 0 || kind > 1) {
            return NONE;
        }
        if (which >= (kind == 0 ? m.kinds.size() : m.cons.size())) {
            return NONE;
        }
        String name = kind == 0 ? m.kinds.get(which).name : m.cons.get(which).name;
        return k < name.length() ? name.charAt(k) - 96 : 0;
    }

    public int values(int kind) {
        if (m == null || kind < -1 || kind >= m.kinds.size()) {
            return NONE;
        }
        return kind == -1 ? 20 : m.kinds.get(kind).values().size();
    }

    private boolean there(int place) {
        return m != null && place >= 0 && place < now.arms.size();
    }

    private boolean isRow(int row) {
        return m != null && row >= 0 && row < m.rows;
    }

    private Arm taker(List<Arm> arms, int row, int on) {
        for (Arm a : arms) {
            if (m.fits(a, row) && (a.guard < 0 || (on >> a.guard & 1) == 1)) {
                return a;
            }
        }
        return null;
    }

    private boolean sure(List<Arm> arms, int row) {
        return arms.stream().anyMatch(a -> a.guard < 0 && m.fits(a, row));
    }

    public int arm(int place, int what) {
        if (!there(place)) {
            return NONE;
        }
        Arm a = now.arms.get(place);
        if (what == 0 || what == 1) {
            return what == 0 ? a.told : a.guard;
        }
        int fit = 0;
        int taken = 0;
        int useful = 0;
        for (int row = 0; row < m.rows; row++) {
            if (m.fits(a, row)) {
                fit++;
                taken += taker(now.arms, row, now.on) == a ? 1 : 0;
                useful |= sure(now.arms.subList(0, place), row) ? 0 : 1;
            }
        }
        return what == 2 ? useful : what == 3 ? fit : what == 4 ? taken : NONE;
    }

    public int fits(int place, int column, int v) {
        if (!there(place) || column < 0 || column >= m.columns.size() || v < 0 || v >= m.values.get(column).size()) {
            return NONE;
        }
        return now.arms.get(place).patterns.get(column).fits(m.values.get(column).get(v)) ? 1 : 0;
    }

    public int holds(int one, int other) {
        if (!there(one) || !there(other)) {
            return NONE;
        }
        for (int row = 0; row < m.rows; row++) {
            if (m.fits(now.arms.get(other), row) && !m.fits(now.arms.get(one), row)) {
                return 0;
            }
        }
        return 1;
    }

    public int missing(int k) {
        if (m == null) {
            return NONE;
        }
        List<Integer> rows = new ArrayList<>();
        for (int row = 0; row < m.rows; row++) {
            if (!sure(now.arms, row)) {
                rows.add(row);
            }
        }
        return k == -1 ? rows.size() : k >= 0 && k < rows.size() ? rows.get(k) : NONE;
    }

    public int taken(int row) {
        return isRow(row) ? now.arms.indexOf(taker(now.arms, row, now.on)) : NONE;
    }

    public int row() {
        String all = takeTape();
        try {
            fault = 0;
            place = NONE;
            if (m == null) {
                throw new Bad(1, 0);
            }
            Text t = new Text(all);
            int row = 0;
            for (int c = 0; c < m.columns.size(); c++) {
                if (c > 0) {
                    t.must(",");
                }
                Value v = value(t, m.columns.get(c));
                row = row * m.values.get(c).size() + m.values.get(c).indexOf(v);
            }
            t.must("");
            return row;
        } catch (Bad b) {
            fault = b.number;
            place = b.at;
            return none(1);
        }
    }

    public int text(int row) {
        if (!isRow(row)) {
            return NONE;
        }
        List<String> parts = new ArrayList<>();
        int[] r = m.row(row);
        for (int c = 0; c < r.length; c++) {
            parts.add(m.values.get(c).get(r[c]).text());
        }
        written = new ArrayList<>();
        String.join(",", parts).chars().forEach(written::add);
        return written.size();
    }

    public int octet(int k) {
        return k >= 0 && k < written.size() ? written.get(k) : NONE;
    }

    // ---- trees

    private static final class Node {
        List<Arm> arms;
        List<Integer> columns;
        int asked = NONE;
        Arm head;
        List<List<Integer>> values = new ArrayList<>();
        List<Node> branches = new ArrayList<>();
    }

    private List<List<Integer>> groups(List<Arm> arms, int c) {
        Map<List<Boolean>, List<Integer>> found = new HashMap<>();
        Map<Integer, List<Integer>> sorted = new TreeMap<>();
        for (int v = 0; v < m.values.get(c).size(); v++) {
            List<Boolean> key = new ArrayList<>();
            for (Arm a : arms) {
                key.add(a.fit.get(c)[v]);
            }
            if (!found.containsKey(key)) {
                found.put(key, new ArrayList<>());
                sorted.put(v, found.get(key));
            }
            found.get(key).add(v);
        }
        return new ArrayList<>(sorted.values());
    }

    private static boolean full(Arm a, int c) {
        for (boolean b : a.fit.get(c)) {
            if (!b) {
                return false;
            }
        }
        return true;
    }

    private static List<Arm> fitting(List<Arm> arms, int c, int v) {
        return arms.stream().filter(a -> a.fit.get(c)[v]).toList();
    }

    private Node node(List<Arm> arms, List<Integer> columns, int rule) {
        Node n = new Node();
        n.arms = arms;
        n.columns = columns;
        if (arms.isEmpty()) {
            return n;
        }
        n.head = arms.get(0);
        int least = 0;
        for (int c : columns) {
            if (full(n.head, c)) {
                continue;
            }
            int cost = 0;
            if (rule == 1) {
                int run = 0;
                while (run < arms.size() && !full(arms.get(run), c)) {
                    run++;
                }
                cost = -run;
            } else if (rule == 2) {
                cost = groups(arms, c).size();
            } else if (rule == 3) {
                for (List<Integer> g : groups(arms, c)) {
                    cost = Math.max(cost, fitting(arms, c, g.get(0)).size());
                }
            }
            if (n.asked == NONE || cost < least) {
                n.asked = c;
                least = cost;
            }
        }
        if (n.asked == NONE) {
            if (n.head.guard >= 0) {
                n.branches.add(node(arms.subList(1, arms.size()), columns, rule));
            }
            return n;
        }
        List<Integer> rest = new ArrayList<>(columns);
        rest.remove((Integer) n.asked);
        n.values = groups(arms, n.asked);
        for (List<Integer> g : n.values) {
            n.branches.add(node(fitting(arms, n.asked, g.get(0)), rest, rule));
        }
        return n;
    }

    private Node root(List<Arm> arms, int rule) {
        List<Integer> columns = new ArrayList<>();
        for (int c = 0; c < m.columns.size(); c++) {
            columns.add(c);
        }
        return node(arms, columns, rule);
    }

    private static int count(Node n, Set<List<Object>> unlike) {
        unlike.add(List.of(n.arms, n.columns));
        int sum = 1;
        for (Node b : n.branches) {
            sum += count(b, unlike);
        }
        return sum;
    }

    private static int longest(Node n) {
        int most = 0;
        for (Node b : n.branches) {
            most = Math.max(most, longest(b));
        }
        return most + (n.asked == NONE ? 0 : 1);
    }

    private int asked(Node n, int[] row, int on) {
        if (n.branches.isEmpty()) {
            return 0;
        }
        if (n.asked == NONE) {
            return (on >> n.head.guard & 1) == 1 ? 0 : asked(n.branches.get(0), row, on);
        }
        for (int i = 0; i < n.values.size(); i++) {
            if (n.values.get(i).contains(row[n.asked])) {
                return 1 + asked(n.branches.get(i), row, on);
            }
        }
        throw new IllegalStateException();
    }

    private int tests(List<Arm> arms, int rule) {
        Node root = root(arms, rule);
        int sum = 0;
        for (int row = 0; row < m.rows; row++) {
            sum += asked(root, m.row(row), now.on);
        }
        return sum;
    }

    public int tree(int rule, int what) {
        if (m == null || rule < 0 || rule > 3) {
            return NONE;
        }
        Set<List<Object>> unlike = new HashSet<>();
        Node root = root(now.arms, rule);
        int nodes = count(root, unlike);
        return switch (what) {
            case 0 -> nodes;
            case 1 -> unlike.size();
            case 2 -> longest(root);
            case 3 -> tests(now.arms, rule);
            default -> NONE;
        };
    }

    public int first(int rule) {
        if (m == null || rule < 0 || rule > 3) {
            return NONE;
        }
        Node n = root(now.arms, rule);
        while (n.asked == NONE && !n.branches.isEmpty()) {
            n = n.branches.get(0);
        }
        return n.asked;
    }

    /** A build that goes on by a stack of what stands open, not by recursion. */
    public int scopes(int rule, int what, int k) {
        if (m == null || rule < 0 || rule > 3) {
            return NONE;
        }
        List<Node> open = new ArrayList<>();
        List<Integer> number = new ArrayList<>();
        List<Integer> done = new ArrayList<>();
        List<Integer> shut = new ArrayList<>();
        int opened = 0;
        int most = 0;
        boolean stopped = false;
        Node next = root(now.arms, rule);
        while (next != null || !open.isEmpty()) {
            if (next != null && opened == m.budget) {
                stopped = true;
                break;
            }
            if (next != null) {
                open.add(next);
                number.add(opened++);
                done.add(0);
                most = Math.max(most, open.size());
            }
            int top = open.size() - 1;
            int at = done.get(top);
            if (at < open.get(top).branches.size()) {
                done.set(top, at + 1);
                next = open.get(top).branches.get(at);
            } else {
                next = null;
                open.remove(top);
                done.remove(top);
                shut.add(number.remove(top));
            }
        }
        while (!number.isEmpty()) {
            shut.add(number.remove(number.size() - 1));
        }
        return switch (what) {
            case 0 -> opened;
            case 1 -> most;
            case 2 -> stopped ? 1 : 0;
            case 3 -> k >= 0 && k < shut.size() ? shut.get(k) : NONE;
            default -> NONE;
        };
    }

    // ---- changes

    private List<Arm> changed(int a, int b) {
        List<Arm> arms = new ArrayList<>(now.arms);
        arms.set(a, now.arms.get(b));
        arms.set(b, now.arms.get(a));
        return arms;
    }

    public int safe(int a, int b) {
        if (!there(a) || !there(b)) {
            return NONE;
        }
        List<Arm> arms = changed(a, b);
        for (int row = 0; row < m.rows; row++) {
            for (int on = 0; on < 256; on++) {
                if (taker(arms, row, on) != taker(now.arms, row, on)) {
                    return 0;
                }
            }
        }
        return 1;
    }

    public int best(int what) {
        if (m == null || what < 0 || what > 1) {
            return NONE;
        }
        int best = NONE;
        int least = tests(now.arms, now.rule);
        for (int p = 0; p + 1 < now.arms.size(); p++) {
            if (safe(p, p + 1) == 1) {
                int tests = tests(changed(p, p + 1), now.rule);
                if (tests < least) {
                    least = tests;
                    best = p;
                }
            }
        }
        return what == 0 ? best : least;
    }

    // ---- which guards are on

    public int see() {
        String s = takeTape();
        if (m == null || s.isEmpty() || s.length() > 48 || s.length() % 3 != 0) {
            return none(5);
        }
        List<int[]> rows = new ArrayList<>();
        List<Arm> arms = new ArrayList<>();
        for (int i = 0; i < s.length(); i += 3) {
            int row = s.charAt(i) * 256 + s.charAt(i + 1);
            int place = s.charAt(i + 2);
            if (!isRow(row) || place != 255 && !there(place)) {
                return none(5);
            }
            rows.add(new int[] {row});
            arms.add(place == 255 ? null : now.arms.get(place));
        }
        seenRows = rows;
        seenArms = arms;
        return rows.size();
    }

    private List<Integer> guardSets() {
        List<Integer> sets = new ArrayList<>();
        for (int on = 0; on < 256; on++) {
            boolean good = true;
            for (int i = 0; i < seenRows.size(); i++) {
                good &= taker(now.arms, seenRows.get(i)[0], on) == seenArms.get(i);
            }
            if (good) {
                sets.add(on);
            }
        }
        return sets;
    }

    public int sets(int k) {
        if (m == null) {
            return NONE;
        }
        List<Integer> sets = guardSets();
        return k == -1 ? sets.size() : k >= 0 && k < sets.size() ? sets.get(k) : NONE;
    }

    public int tells(int what) {
        if (m == null || what < 0 || what > 1) {
            return NONE;
        }
        List<Integer> sets = guardSets();
        if (sets.isEmpty()) {
            return NONE;
        }
        int best = NONE;
        int least = 0;
        for (int row = 0; row < Math.min(1000, m.rows); row++) {
            Map<Arm, Integer> left = new HashMap<>();
            int most = 0;
            for (int on : sets) {
                most = Math.max(most, left.merge(taker(now.arms, row, on), 1, Integer::sum));
            }
            if (best == NONE || most < least) {
                best = row;
                least = most;
            }
        }
        return what == 0 ? best : least;
    }

    // ---- acts

    private void act(State next) {
        past.add(now);
        if (past.size() > 20) {
            past.remove(0);
        }
        now = next;
    }

    private State ran(State s, int row) {
        List<int[]> kept = new ArrayList<>(s.kept);
        Arm a = taker(s.arms, row, s.on);
        kept.add(new int[] {row, a == null ? NONE : a.told, asked(root(s.arms, s.rule), m.row(row), s.on)});
        return new State(s.arms, s.on, s.rule, kept);
    }

    public int run(int row) {
        if (!isRow(row)) {
            return none(2);
        }
        act(ran(now, row));
        return taken(row);
    }

    public int chance(int n) {
        if (m == null || n < 1 || n > 40) {
            return none(2);
        }
        int untaken = 0;
        State s = now;
        for (int i = 0; i < n; i++) {
            seed = (1103515245L * seed + 12345) % (1L << 31);
            int row = (int) (seed / 64 % m.rows);
            s = ran(s, row);
            untaken += taken(row) == NONE ? 1 : 0;
        }
        act(s);
        return untaken;
    }

    public boolean swap(int a, int b) {
        if (a == b || !there(a) || !there(b)) {
            return no(3);
        }
        act(new State(changed(a, b), now.on, now.rule, now.kept));
        return true;
    }

    public boolean drop(int place) {
        if (!there(place)) {
            return no(3);
        }
        List<Arm> arms = new ArrayList<>(now.arms);
        arms.remove(place);
        act(new State(arms, now.on, now.rule, now.kept));
        return true;
    }

    public int turn(int guard) {
        if (m == null || guard < 0 || guard > 7) {
            return none(3);
        }
        act(new State(now.arms, now.on ^ 1 << guard, now.rule, now.kept));
        return now.on >> guard & 1;
    }

    public boolean choose(int rule) {
        if (m == null || rule < 0 || rule > 3 || rule == now.rule) {
            return no(3);
        }
        act(new State(now.arms, now.on, rule, now.kept));
        return true;
    }

    public boolean undo() {
        if (past.isEmpty()) {
            return no(4);
        }
        now = past.remove(past.size() - 1);
        return true;
    }

    public boolean seed(int x) {
        if (x < 0) {
            return no(5);
        }
        seed = x;
        return true;
    }

    public int kept(int k, int what) {
        List<int[]> told = now.kept.subList(Math.max(0, now.kept.size() - 40), now.kept.size());
        return k < 0 || k >= told.size() || what < 0 || what > 2 ? NONE : told.get(k)[what];
    }

    // ---- images, refusals

    private static int check(List<Integer> bytes) {
        int c = 199;
        for (int b : bytes) {
            c = (5 * c + b) % 251;
        }
        return c;
    }

    public int image() {
        written = new ArrayList<>();
        written.add(now.arms.size());
        now.arms.forEach(a -> written.add(a.told));
        written.addAll(Arrays.asList(now.on, now.rule));
        written.add(check(written));
        return written.size();
    }

    public boolean on() {
        List<Integer> bytes = tape;
        tape = new ArrayList<>();
        if (m == null || bytes.size() < 4 || bytes.size() != bytes.get(0) + 4) {
            return no(5);
        }
        int n = bytes.get(0);
        List<Arm> arms = new ArrayList<>();
        for (int b : bytes.subList(1, n + 1)) {
            if (b >= m.arms.size() || arms.contains(m.arms.get(b))) {
                return no(5);
            }
            arms.add(m.arms.get(b));
        }
        if (bytes.get(n + 2) > 3 || bytes.get(n + 3) != check(bytes.subList(0, n + 3))) {
            return no(5);
        }
        now = new State(arms, bytes.get(n + 1), bytes.get(n + 2), List.of());
        past = new ArrayList<>();
        return true;
    }

    public int status(int what) {
        return what >= 0 && what < 6 ? refused[what] : NONE;
    }
}
