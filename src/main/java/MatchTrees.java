/**
 * Match compiler: kinds with their constructors, columns, arms of patterns with alternatives,
 * ranges and guards told as a text; decision trees, changes of arms, guards found out, acts.
 */
public final class MatchTrees {
    public static final int NONE = -1;

    private static final int NUM = NONE;
    private static final int TAPE_MOST = 1600;
    private static final int TEXT_ROOM = 1024;
    private static final int STATEMENTS_MOST = 60;
    private static final int LETTERS_MOST = 6;
    private static final int DIGITS_MOST = 4;
    private static final int ALPHABET = 27;
    private static final int KINDS_MOST = 4;
    private static final int CONS_MOST = 6;
    private static final int FIELDS_MOST = 2;
    private static final int COLUMNS_MOST = 4;
    private static final int ARMS_MOST = 12;
    private static final int GUARDS_MOST = 8;
    private static final int GUARD_SETS = 256;
    private static final int RULES = 4;
    private static final int NUMS = 20;
    private static final int VALUES_MOST = 2000;
    private static final int ROWS_MOST = 20000;
    private static final int BUDGET_MOST = 999;
    private static final int BUDGET_FIRST = 300;
    private static final int KEPT_TOLD = 40;
    private static final int ACTS_MOST = 20;
    private static final int SEEN_MOST = 16;
    private static final int TELLING_MOST = 1000;
    private static final int NODES_TOLD = 1000000;
    private static final int NO_ARM = 255;

    // Constructors without fields never are too many: a kind may pass 2000 values by five.
    private static final int VALUES_ROOM = 2048;
    private static final int ARM_SETS = 4096;
    private static final int NODE_SETS = 65536;
    // 40 that are told, and 20 acts of 40 rows each that can be undone.
    private static final int KEPT_ROOM = 1024;
    // A pattern of a kind, fields of the three kinds told ahead of it, and numbers below these.
    private static final int PATTERN_DEPTH = 4;
    // Four columns, twelve doors and a leaf.
    private static final int TREE_DEPTH = 20;
    // Nodes are 1000000 at most, tests four for each of 20000 rows, the longest way has four columns.
    private static final int NODES_BITS = 20;
    private static final int TESTS_BITS = 17;
    private static final int COUNT_BITS = 40;

    private static final int FAULT_SYNTAX = 1;
    private static final int FAULT_TAKEN = 2;
    private static final int FAULT_NAME = 3;
    private static final int FAULT_NUMBER = 4;
    private static final int FAULT_MANY = 6;

    private static final int WORD_KIND = 0;
    private static final int WORD_CON = 1;
    private static final int WORD_MATCH = 2;
    private static final int WORD_ARM = 3;
    private static final int WORD_WHEN = 4;
    private static final int WORD_RULE = 5;
    private static final int WORD_BUDGET = 6;
    private static final int WORD_NUM = 7;
    private static final int WORD_ANY = 8;
    private static final int WORD_OR = 9;
    private static final int WORD_TO = 10;

    private static final int REFUSED_TAPE = 0;
    private static final int REFUSED_TEXT = 1;
    private static final int REFUSED_RUN = 2;
    private static final int REFUSED_ACT = 3;
    private static final int REFUSED_UNDO = 4;
    private static final int REFUSED_OTHER = 5;
    private static final int REFUSED_KINDS = 6;

    private final Bytes tape = new Bytes(TAPE_MOST);
    private final Bytes written = new Bytes(TEXT_ROOM);
    private final Marks marks = new Marks();
    private final Groups rowGroups = new Groups(ARM_SETS, marks);
    private final Groups rowGroupsAhead = new Groups(ARM_SETS, marks);
    private final Order order = new Order();
    private final Order trial = new Order();
    private final Acts acts = new Acts();
    private final Seen seen = new Seen();
    private final int[] refused = new int[REFUSED_KINDS];
    private Table table = new Table();
    private Table spare = new Table();
    private final Reader reader = new Reader(table);
    private final Trees trees = new Trees(table, order, marks);
    private int seedNow = 1;

    public MatchTrees() {
    }

    public int feed(int a, int b, int c, int d, int e) {
        if (tape.length + 20 > TAPE_MOST) {
            refuse(REFUSED_TAPE);
            return NONE;
        }
        tape.addFour(a);
        tape.addFour(b);
        tape.addFour(c);
        tape.addFour(d);
        tape.addFour(e);
        return tape.length;
    }

    public boolean end(int n) {
        if (n < 0 || n > tape.length) {
            return refuse(REFUSED_TAPE);
        }
        tape.length = n;
        return true;
    }

    public int match() {
        int statements = reader.readMatch(tape, spare);
        tape.length = 0;
        if (statements == NONE) {
            refuse(REFUSED_TEXT);
            return NONE;
        }
        Table old = table;
        table = spare;
        spare = old;
        startMatch();
        return statements;
    }

    private void startMatch() {
        trees.setTable(table);
        rowGroups.begin();
        rowGroups.add((1 << table.arms) - 1, 1);
        for (int c = 0; c < table.columns; c++) {
            rowGroupsAhead.copy(rowGroups);
            rowGroups.begin();
            rowGroups.addProducts(rowGroupsAhead, trees.column[c]);
        }
        order.begin(table.arms, table.rule);
        acts.clear();
        seen.count = 0;
    }

    public int fault(int what) {
        if (what == 0) {
            return reader.fault;
        }
        return what == 1 ? reader.place : NONE;
    }

    public int has(int what) {
        switch (what) {
            case 0: return table.kinds.kinds;
            case 1: return table.kinds.cons;
            case 2: return table.columns;
            case 3: return table.rows;
            case 4: return order.count;
            case 5: return order.on;
            case 6: return order.rule;
            case 7: return acts.keptTold();
            case 8: return seen.count;
            case 9: return acts.undoable;
            case 10: return seedNow;
            default: return NONE;
        }
    }

    public int letter(int kind, int which, int k) {
        Kinds kinds = table.kinds;
        if (k < 0 || k >= LETTERS_MOST || which < 0) {
            return NONE;
        }
        if (kind == 0 && kinds.isKind(which)) {
            return letterOf(kinds.kindName[which], k);
        }
        if (kind == 1 && kinds.isCon(which)) {
            return letterOf(kinds.conName[which], k);
        }
        return NONE;
    }

    public int values(int kind) {
        if (!matched() || kind != NUM && !table.kinds.isKind(kind)) {
            return NONE;
        }
        return table.kinds.sizeOf(kind);
    }

    public int arm(int place, int what) {
        int told = order.armAt(place);
        if (told == NONE) {
            return NONE;
        }
        switch (what) {
            case 0: return told;
            case 1: return table.guardOf(told);
            case 2: return isUseful(place) ? 1 : 0;
            case 3: return rowsFitting(told);
            case 4: return rowsTaken(place);
            default: return NONE;
        }
    }

    private boolean isUseful(int place) {
        int told = order.armAt(place);
        int ahead = order.unguarded(table, place);
        for (int g = 0; g < rowGroups.count; g++) {
            int set = rowGroups.arms[g];
            if (isIn(set, told) && (set & ahead) == 0) {
                return true;
            }
        }
        return false;
    }

    private int rowsFitting(int told) {
        int sum = 0;
        for (int g = 0; g < rowGroups.count; g++) {
            if (isIn(rowGroups.arms[g], told)) {
                sum += rowGroups.size[g];
            }
        }
        return sum;
    }

    private int rowsTaken(int place) {
        int sum = 0;
        for (int g = 0; g < rowGroups.count; g++) {
            if (order.placeTaking(table, rowGroups.arms[g], order.on) == place) {
                sum += rowGroups.size[g];
            }
        }
        return sum;
    }

    public int fits(int place, int column, int v) {
        int told = order.armAt(place);
        if (told == NONE || column < 0 || column >= table.columns) {
            return NONE;
        }
        if (v < 0 || v >= table.size[column]) {
            return NONE;
        }
        return isIn(table.armsFitting(column, v), told) ? 1 : 0;
    }

    public int holds(int one, int other) {
        int outer = order.armAt(one);
        int inner = order.armAt(other);
        if (outer == NONE || inner == NONE) {
            return NONE;
        }
        for (int g = 0; g < rowGroups.count; g++) {
            int set = rowGroups.arms[g];
            if (isIn(set, inner) && !isIn(set, outer)) {
                return 0;
            }
        }
        return 1;
    }

    public int missing(int k) {
        if (!matched() || k < NONE) {
            return NONE;
        }
        int sure = order.unguarded(table, order.count);
        return k == NONE ? countMissing(sure) : findMissing(sure, k);
    }

    private int countMissing(int sure) {
        int sum = 0;
        for (int g = 0; g < rowGroups.count; g++) {
            if ((rowGroups.arms[g] & sure) == 0) {
                sum += rowGroups.size[g];
            }
        }
        return sum;
    }

    private int findMissing(int sure, int k) {
        int met = 0;
        for (int row = 0; row < table.rows; row++) {
            if ((table.armsOf(row) & sure) == 0) {
                if (met == k) {
                    return row;
                }
                met++;
            }
        }
        return NONE;
    }

    public int taken(int row) {
        if (!table.isRow(row)) {
            return NONE;
        }
        return order.placeTaking(table, table.armsOf(row), order.on);
    }

    // ---- texts

    public int row() {
        int number = reader.readRow(tape, table);
        tape.length = 0;
        if (number == NONE) {
            refuse(REFUSED_TEXT);
        }
        return number;
    }

    public int text(int row) {
        if (!table.isRow(row)) {
            return NONE;
        }
        written.length = 0;
        for (int c = 0; c < table.columns; c++) {
            if (c > 0) {
                written.add(',');
            }
            writeValue(written, table.kinds, table.kindOf[c], table.valueOf(row, c), 0);
        }
        return written.length;
    }

    private static void writeValue(Bytes out, Kinds kinds, int kind, int value, int depth) {
        if (kind == NUM) {
            out.addNumber(value);
            return;
        }
        int con = kinds.conOf(kind, value);
        if (con == NONE || depth > PATTERN_DEPTH) {
            return;
        }
        out.addName(kinds.conName[con]);
        int second = kinds.secondSize(con);
        if (kinds.fields[con] == 0 || second <= 0) {
            return;
        }
        int rest = value - kinds.base[con];
        out.add('(');
        writeValue(out, kinds, kinds.fieldA[con], rest / second, depth + 1);
        if (kinds.fields[con] == FIELDS_MOST) {
            out.add(',');
            writeValue(out, kinds, kinds.fieldB[con], rest % second, depth + 1);
        }
        out.add(')');
    }

    public int octet(int k) {
        return written.byteAt(k);
    }

    // ---- trees

    public int tree(int rule, int what) {
        if (!matched() || !isRule(rule)) {
            return NONE;
        }
        long counts = trees.measureAll(order, rule);
        switch (what) {
            case 0: return Trees.nodesIn(counts);
            case 1: return trees.unlike;
            case 2: return Trees.longestIn(counts);
            case 3: return Trees.testsIn(counts);
            default: return NONE;
        }
    }

    public int first(int rule) {
        if (!matched() || !isRule(rule)) {
            return NONE;
        }
        return trees.firstColumn(order, rule);
    }

    public int scopes(int rule, int what, int k) {
        if (!matched() || !isRule(rule)) {
            return NONE;
        }
        trees.buildAll(order, rule);
        switch (what) {
            case 0: return trees.scopesOpened;
            case 1: return trees.scopesMost;
            case 2: return trees.stopped ? 1 : 0;
            case 3: return trees.scopeShutAs(k);
            default: return NONE;
        }
    }

    // ---- changes

    public int safe(int a, int b) {
        if (!order.isPlace(a) || !order.isPlace(b)) {
            return NONE;
        }
        trial.copy(order);
        trial.exchange(a, b);
        return trialTakesAlike() ? 1 : 0;
    }

    private boolean trialTakesAlike() {
        for (int g = 0; g < rowGroups.count; g++) {
            int set = rowGroups.arms[g];
            if (order.takings(table, set) != trial.takings(table, set)) {
                return false;
            }
        }
        return true;
    }

    public int best(int what) {
        if (!matched() || what < 0 || what > 1) {
            return NONE;
        }
        int least = allTests(order);
        int change = NONE;
        for (int place = 0; place + 1 < order.count; place++) {
            trial.copy(order);
            trial.exchange(place, place + 1);
            if (trialTakesAlike()) {
                int tests = allTests(trial);
                if (tests < least) {
                    least = tests;
                    change = place;
                }
            }
        }
        return what == 0 ? change : least;
    }

    private int allTests(Order arms) {
        return Trees.testsIn(trees.measureAll(arms, arms.rule));
    }

    // ---- which guards are on

    public int see() {
        boolean good = matched() && seen.read(tape, table, order);
        tape.length = 0;
        if (!good) {
            refuse(REFUSED_OTHER);
            return NONE;
        }
        return seen.count;
    }

    public int sets(int k) {
        if (!matched() || k < NONE) {
            return NONE;
        }
        seen.findSets(table, order);
        if (k == NONE) {
            return seen.sets;
        }
        return k < seen.sets ? seen.set[k] : NONE;
    }

    public int tells(int what) {
        if (!matched() || what < 0 || what > 1) {
            return NONE;
        }
        seen.findSets(table, order);
        if (seen.sets == 0) {
            return NONE;
        }
        int telling = NONE;
        int least = 0;
        marks.renew();
        for (int row = 0; row < TELLING_MOST && row < table.rows; row++) {
            int set = table.armsOf(row);
            // A row that fits the arms of one ahead of it tells no more than that one.
            if (marks.isNew(set)) {
                int most = seen.mostLeft(table, order, set);
                if (telling == NONE || most < least) {
                    telling = row;
                    least = most;
                }
            }
        }
        return what == 0 ? telling : least;
    }

    // ---- acts

    public int run(int row) {
        if (!table.isRow(row)) {
            refuse(REFUSED_RUN);
            return NONE;
        }
        remember();
        return runRow(row);
    }

    private int runRow(int row) {
        int place = order.placeTaking(table, table.armsOf(row), order.on);
        acts.keep(row, order.armAt(place), trees.columnsAsked(order, row));
        return place;
    }

    public int chance(int n) {
        if (!matched() || n < 1 || n > KEPT_TOLD) {
            refuse(REFUSED_RUN);
            return NONE;
        }
        remember();
        int untaken = 0;
        for (int i = 0; i < n; i++) {
            if (runRow(draw(table.rows)) == NONE) {
                untaken++;
            }
        }
        return untaken;
    }

    private int draw(int choices) {
        seedNow = (1103515245 * seedNow + 12345) & 0x7fffffff;
        return choices > 0 ? (seedNow >> 6) % choices : 0;
    }

    public boolean swap(int a, int b) {
        if (a == b || !order.isPlace(a) || !order.isPlace(b)) {
            return refuse(REFUSED_ACT);
        }
        remember();
        order.exchange(a, b);
        return true;
    }

    public boolean drop(int place) {
        if (!order.isPlace(place)) {
            return refuse(REFUSED_ACT);
        }
        remember();
        order.takeOut(place);
        return true;
    }

    public int turn(int guard) {
        if (!matched() || guard < 0 || guard >= GUARDS_MOST) {
            refuse(REFUSED_ACT);
            return NONE;
        }
        remember();
        order.on ^= 1 << guard;
        return isIn(order.on, guard) ? 1 : 0;
    }

    public boolean choose(int rule) {
        if (!matched() || !isRule(rule) || rule == order.rule) {
            return refuse(REFUSED_ACT);
        }
        remember();
        order.rule = rule;
        return true;
    }

    public boolean undo() {
        if (acts.undoable == 0) {
            return refuse(REFUSED_UNDO);
        }
        acts.takeBack(order);
        return true;
    }

    private void remember() {
        acts.remember(order);
    }

    public boolean seed(int seed) {
        if (seed < 0) {
            return refuse(REFUSED_OTHER);
        }
        seedNow = seed;
        return true;
    }

    public int kept(int k, int what) {
        return acts.tellKept(k, what);
    }

    // ---- images, refusals

    public int image() {
        written.length = 0;
        written.add(order.count);
        for (int place = 0; place < order.count; place++) {
            written.add(order.arm[place]);
        }
        written.add(order.on);
        written.add(order.rule);
        written.add(written.checkByte(written.length));
        return written.length;
    }

    public boolean on() {
        boolean good = matched() && isImage();
        if (good) {
            takeImage();
        }
        tape.length = 0;
        return good || refuse(REFUSED_OTHER);
    }

    private boolean isImage() {
        int arms = tape.byteAt(0);
        if (arms < 0 || arms > table.arms || tape.length != arms + 4) {
            return false;
        }
        int met = 0;
        for (int place = 0; place < arms; place++) {
            int told = tape.byteAt(1 + place);
            if (told < 0 || told >= table.arms || isIn(met, told)) {
                return false;
            }
            met |= 1 << told;
        }
        return isRule(tape.byteAt(arms + 2)) && tape.byteAt(arms + 3) == tape.checkByte(arms + 3);
    }

    private void takeImage() {
        int arms = Math.min(tape.byteAt(0), ARMS_MOST);
        for (int place = 0; place < arms; place++) {
            order.arm[place] = tape.byteAt(1 + place);
        }
        order.count = Math.max(arms, 0);
        order.on = tape.byteAt(arms + 1);
        order.rule = tape.byteAt(arms + 2);
        acts.clear();
    }

    public int status(int what) {
        return what >= 0 && what < REFUSED_KINDS ? refused[what] : NONE;
    }

    private boolean refuse(int which) {
        if (which >= 0 && which < REFUSED_KINDS) {
            refused[which]++;
        }
        return false;
    }

    private boolean matched() {
        return table.columns > 0;
    }

    private static boolean isRule(int rule) {
        return rule >= 0 && rule < RULES;
    }

    private static boolean isIn(int set, int member) {
        return (set >> member & 1) != 0;
    }

    private static int letterOf(int name, int k) {
        int rest = name;
        for (int i = LETTERS_MOST - 1; i > k; i--) {
            rest /= ALPHABET;
        }
        return rest % ALPHABET;
    }

    /** Bytes one behind the other: the tape, what is written. */
    private static final class Bytes {
        final int[] bytes;
        int length;

        Bytes(int room) {
            bytes = new int[Math.max(room, 0)];
        }

        void add(int b) {
            if (length >= 0 && length < bytes.length) {
                bytes[length] = b & 255;
                length++;
            }
        }

        void addFour(int number) {
            add(number >> 24);
            add(number >> 16);
            add(number >> 8);
            add(number);
        }

        void addNumber(int number) {
            if (number >= 10) {
                add('0' + number / 10 % 10);
            }
            add('0' + number % 10);
        }

        void addName(int name) {
            for (int k = 0; k < LETTERS_MOST; k++) {
                int letter = letterOf(name, k);
                if (letter > 0) {
                    add('a' - 1 + letter);
                }
            }
        }

        int byteAt(int k) {
            return k >= 0 && k < length && k < bytes.length ? bytes[k] : NONE;
        }

        int checkByte(int n) {
            int check = 199;
            for (int k = 0; k < n && k < bytes.length; k++) {
                check = (5 * check + bytes[k]) % 251;
            }
            return check;
        }
    }

    /** Words, numbers and signs of a text. A token that can't be anywhere is BAD, its fault at stop. */
    private static final class Scanner {
        static final int END = 0;
        static final int WORD = 1;
        static final int NUMBER = 2;
        static final int SIGN = 3;
        static final int BAD = 4;

        final int[] ownWords = {
            spell("kind"), spell("con"), spell("match"), spell("arm"), spell("when"), spell("rule"),
            spell("budget"), spell("num"), spell("any"), spell("or"), spell("to")
        };
        int[] text = new int[0];
        int length;
        int next;
        int type;
        int at;
        int stop;
        int value;
        int own;

        static int spell(String word) {
            int code = 0;
            for (int k = 0; k < LETTERS_MOST; k++) {
                code = code * ALPHABET + (k < word.length() ? word.charAt(k) - 'a' + 1 : 0);
            }
            return code;
        }

        void begin(Bytes tape) {
            text = tape.bytes;
            length = Math.max(0, Math.min(tape.length, text.length));
            next = 0;
            type = END;
            step();
        }

        void step() {
            boolean behindWord = type == WORD || type == NUMBER;
            int ahead = next;
            while (next >= 0 && next < length && (text[next] == ' ' || text[next] == '\n')) {
                next++;
            }
            at = next;
            stop = next;
            own = NONE;
            value = 0;
            if (next < 0 || next >= length) {
                type = END;
                return;
            }
            int c = text[next];
            boolean isLetter = c >= 'a' && c <= 'z';
            boolean isDigit = c >= '0' && c <= '9';
            if (!isLetter && !isDigit) {
                type = SIGN;
                value = c;
                next++;
            } else if (behindWord && ahead == at) {
                type = BAD;
            } else if (isLetter) {
                stepWord();
            } else {
                stepNumber();
            }
        }

        private void stepWord() {
            type = WORD;
            int letters = 0;
            while (next >= 0 && next < length && text[next] >= 'a' && text[next] <= 'z') {
                if (letters == LETTERS_MOST) {
                    type = BAD;
                    stop = next;
                    return;
                }
                value = value * ALPHABET + text[next] - 'a' + 1;
                letters++;
                next++;
            }
            for (int k = letters; k < LETTERS_MOST; k++) {
                value *= ALPHABET;
            }
            for (int w = 0; w < ownWords.length; w++) {
                if (ownWords[w] == value) {
                    own = w;
                }
            }
        }

        private void stepNumber() {
            type = NUMBER;
            int digits = 0;
            while (next >= 0 && next < length && text[next] >= '0' && text[next] <= '9') {
                if (digits == DIGITS_MOST) {
                    type = BAD;
                    stop = next;
                    return;
                }
                value = value * 10 + text[next] - '0';
                digits++;
                next++;
            }
        }

        boolean isName() {
            return type == WORD && own == NONE;
        }

        boolean isSign(int sign) {
            return type == SIGN && value == sign;
        }
    }

    /** Kinds and constructors, as they are told. */
    private static final class Kinds {
        final int[] kindName = new int[KINDS_MOST];
        final int[] firstCon = new int[KINDS_MOST];
        final int[] conCount = new int[KINDS_MOST];
        final int[] size = new int[KINDS_MOST];
        final int[] conName = new int[KINDS_MOST * CONS_MOST];
        final int[] base = new int[KINDS_MOST * CONS_MOST];
        final int[] fields = new int[KINDS_MOST * CONS_MOST];
        final int[] fieldA = new int[KINDS_MOST * CONS_MOST];
        final int[] fieldB = new int[KINDS_MOST * CONS_MOST];
        int kinds;
        int cons;

        void clear() {
            kinds = 0;
            cons = 0;
        }

        boolean isKind(int kind) {
            return kind >= 0 && kind < kinds;
        }

        boolean isCon(int con) {
            return con >= 0 && con < cons;
        }

        int sizeOf(int kind) {
            if (kind == NUM) {
                return NUMS;
            }
            return kind >= 0 && kind < kinds ? size[kind] : 0;
        }

        int consOf(int kind) {
            return isKind(kind) ? conCount[kind] : 0;
        }

        int kindNamed(int name) {
            for (int kind = 0; kind < kinds; kind++) {
                if (kindName[kind] == name) {
                    return kind;
                }
            }
            return NONE;
        }

        int conNamed(int name) {
            for (int con = 0; con < cons; con++) {
                if (conName[con] == name) {
                    return con;
                }
            }
            return NONE;
        }

        /** The constructor of a kind by its name. */
        int conNamedOf(int kind, int name) {
            int con = conNamed(name);
            if (con == NONE || !isKind(kind)) {
                return NONE;
            }
            int from = firstCon[kind];
            return con >= from && con < from + conCount[kind] ? con : NONE;
        }

        /** The constructor of a kind by one of its values. */
        int conOf(int kind, int value) {
            if (!isKind(kind)) {
                return NONE;
            }
            int found = NONE;
            for (int i = 0; i < conCount[kind]; i++) {
                int con = firstCon[kind] + i;
                if (isCon(con) && base[con] <= value) {
                    found = con;
                }
            }
            return found;
        }

        /** How many values a constructor's second field has; 1 without such a field. */
        int secondSize(int con) {
            return isCon(con) && fields[con] == FIELDS_MOST ? sizeOf(fieldB[con]) : 1;
        }

        void addKind(int name) {
            if (kinds < KINDS_MOST) {
                kindName[kinds] = name;
                firstCon[kinds] = cons;
                conCount[kinds] = 0;
                size[kinds] = 0;
                kinds++;
            }
        }

        /** A constructor of the latest kind, which has so many values of it. */
        void addCon(int name, int fieldCount, int a, int b, int its) {
            int kind = kinds - 1;
            if (isKind(kind) && conCount[kind] < CONS_MOST && cons < conName.length) {
                conName[cons] = name;
                base[cons] = size[kind];
                fields[cons] = fieldCount;
                fieldA[cons] = a;
                fieldB[cons] = b;
                cons++;
                conCount[kind]++;
                size[kind] += its;
            }
        }
    }

    /** What a match tells: kinds, columns, and which arms each value fits. */
    private static final class Table {
        final Kinds kinds = new Kinds();
        final int[] kindOf = new int[COLUMNS_MOST];
        final int[] size = new int[COLUMNS_MOST];
        final int[] full = new int[COLUMNS_MOST];
        final int[] guard = new int[ARMS_MOST];
        final int[][] fitting = new int[COLUMNS_MOST][VALUES_ROOM];
        int columns;
        int rows;
        int arms;
        int rule;
        int budget;

        void clear() {
            kinds.clear();
            columns = 0;
            rows = 0;
            arms = 0;
            rule = 0;
            budget = BUDGET_FIRST;
        }

        void addColumn(int kind) {
            int its = kinds.sizeOf(kind);
            if (columns >= COLUMNS_MOST || its > VALUES_ROOM) {
                return;
            }
            kindOf[columns] = kind;
            size[columns] = its;
            full[columns] = 0;
            for (int v = 0; v < its; v++) {
                fitting[columns][v] = 0;
            }
            rows = columns == 0 ? its : rows * its;
            columns++;
        }

        /** The pattern of the arm that is being told, in a column, by the values that fit it. */
        void setPattern(int column, int[] fit) {
            if (column < 0 || column >= columns || arms >= ARMS_MOST) {
                return;
            }
            int bit = 1 << arms;
            boolean isFull = true;
            for (int v = 0; v < size[column] && v < fit.length; v++) {
                if (fit[v] != 0) {
                    fitting[column][v] |= bit;
                } else {
                    isFull = false;
                }
            }
            if (isFull) {
                full[column] |= bit;
            }
        }

        void addArm(int itsGuard) {
            if (arms < ARMS_MOST) {
                guard[arms] = itsGuard;
                arms++;
            }
        }

        int guardOf(int told) {
            return told >= 0 && told < arms ? guard[told] : NONE;
        }

        boolean isRow(int row) {
            return row >= 0 && row < rows;
        }

        int armsFitting(int column, int value) {
            if (column < 0 || column >= columns || value < 0 || value >= VALUES_ROOM) {
                return 0;
            }
            return fitting[column][value];
        }

        int valueOf(int row, int column) {
            int rest = row;
            for (int c = columns - 1; c > column; c--) {
                rest = size[c] > 0 ? rest / size[c] : 0;
            }
            return column >= 0 && column < columns && size[column] > 0 ? rest % size[column] : 0;
        }

        int armsOf(int row) {
            int set = (1 << arms) - 1;
            int rest = row;
            for (int c = columns - 1; c >= 0; c--) {
                int its = Math.max(size[c], 1);
                set &= armsFitting(c, rest % its);
                rest /= its;
            }
            return set;
        }
    }

    /** Reads matches and rows, and tells the first fault along the text. */
    private static final class Reader {
        final Scanner scan = new Scanner();
        // For each depth the values that fit the patterns of a constructor's two fields there.
        final int[][] fit = new int[2 * (PATTERN_DEPTH + 1)][VALUES_ROOM];
        Table table;
        int fault;
        int place = NONE;

        Reader(Table itsTable) {
            table = itsTable;
        }

        int readMatch(Bytes tape, Table into) {
            table = into;
            table.clear();
            begin(tape);
            int statements = 0;
            while (scan.type != Scanner.END && statements < STATEMENTS_MOST) {
                boolean good;
                switch (scan.own) {
                    case WORD_KIND: good = readKind(); break;
                    case WORD_CON: good = readCon(); break;
                    case WORD_MATCH: good = readColumns(); break;
                    case WORD_ARM: good = readArm(); break;
                    case WORD_RULE: good = readRule(); break;
                    case WORD_BUDGET: good = readBudget(); break;
                    default: good = failHere();
                }
                if (!good || !readSign(';')) {
                    return NONE;
                }
                statements++;
            }
            if (scan.type != Scanner.END) {
                fail(FAULT_MANY, scan.at);
                return NONE;
            }
            if (table.columns == 0) {
                failHere();
                return NONE;
            }
            return statements;
        }

        private void begin(Bytes tape) {
            fault = 0;
            place = NONE;
            scan.begin(tape);
        }

        private boolean fail(int number, int at) {
            fault = number;
            place = at;
            return false;
        }

        private boolean failHere() {
            fault = FAULT_SYNTAX;
            place = scan.type == Scanner.BAD ? scan.stop : scan.at;
            return false;
        }

        private boolean readSign(int sign) {
            if (!scan.isSign(sign)) {
                return failHere();
            }
            scan.step();
            return true;
        }

        private int readNumber(int low, int high) {
            if (scan.type != Scanner.NUMBER) {
                failHere();
                return NONE;
            }
            int number = scan.value;
            if (number < low || number > high) {
                fail(FAULT_NUMBER, scan.at);
                return NONE;
            }
            scan.step();
            return number;
        }

        private boolean readRule() {
            scan.step();
            table.rule = readNumber(0, RULES - 1);
            return table.rule != NONE;
        }

        private boolean readBudget() {
            scan.step();
            table.budget = readNumber(1, BUDGET_MOST);
            return table.budget != NONE;
        }

        private boolean readKind() {
            if (table.columns > 0) {
                return failHere();
            }
            if (table.kinds.kinds >= KINDS_MOST) {
                return fail(FAULT_MANY, scan.at);
            }
            scan.step();
            if (!isNewName()) {
                return false;
            }
            table.kinds.addKind(scan.value);
            scan.step();
            return true;
        }

        private boolean isNewName() {
            if (!scan.isName()) {
                return failHere();
            }
            Kinds kinds = table.kinds;
            if (kinds.kindNamed(scan.value) != NONE || kinds.conNamed(scan.value) != NONE) {
                return fail(FAULT_TAKEN, scan.at);
            }
            return true;
        }

        private boolean readCon() {
            Kinds kinds = table.kinds;
            int latest = kinds.kinds - 1;
            if (table.columns > 0 || latest < 0) {
                return failHere();
            }
            if (kinds.consOf(latest) >= CONS_MOST) {
                return fail(FAULT_MANY, scan.at);
            }
            scan.step();
            if (!isNewName()) {
                return false;
            }
            int name = scan.value;
            int count = 0;
            int a = NUM;
            int b = NUM;
            int its = 1;
            scan.step();
            while (isKindWord() && count <= FIELDS_MOST) {
                if (count == FIELDS_MOST) {
                    return fail(FAULT_MANY, scan.at);
                }
                if (!isKindHere(latest)) {
                    return fail(FAULT_NAME, scan.at);
                }
                int kind = kindHere();
                its *= kinds.sizeOf(kind);
                if (kinds.sizeOf(latest) + its > VALUES_MOST) {
                    return fail(FAULT_NUMBER, scan.at);
                }
                if (count == 0) {
                    a = kind;
                } else {
                    b = kind;
                }
                count++;
                scan.step();
            }
            kinds.addCon(name, count, a, b, its);
            return true;
        }

        private boolean isKindWord() {
            return scan.isName() || scan.own == WORD_NUM;
        }

        private int kindHere() {
            return scan.own == WORD_NUM ? NUM : table.kinds.kindNamed(scan.value);
        }

        /** Whether num stands here, or a kind that has a constructor, and is not a given one. */
        private boolean isKindHere(int but) {
            if (scan.own == WORD_NUM) {
                return true;
            }
            int kind = kindHere();
            return kind != NONE && kind != but && table.kinds.consOf(kind) > 0;
        }

        private boolean readColumns() {
            if (table.columns > 0) {
                return fail(FAULT_MANY, scan.at);
            }
            scan.step();
            if (!isKindWord()) {
                return failHere();
            }
            int rows = 1;
            for (int c = 0; c <= COLUMNS_MOST && isKindWord(); c++) {
                if (c == COLUMNS_MOST) {
                    return fail(FAULT_MANY, scan.at);
                }
                if (!isKindHere(NONE)) {
                    return fail(FAULT_NAME, scan.at);
                }
                int kind = kindHere();
                rows *= table.kinds.sizeOf(kind);
                if (rows > ROWS_MOST) {
                    return fail(FAULT_NUMBER, scan.at);
                }
                table.addColumn(kind);
                scan.step();
            }
            return true;
        }

        private boolean readArm() {
            if (table.columns == 0) {
                return failHere();
            }
            if (table.arms >= ARMS_MOST) {
                return fail(FAULT_MANY, scan.at);
            }
            scan.step();
            for (int c = 0; c < table.columns; c++) {
                if (c > 0 && !readSign(',')) {
                    return false;
                }
                if (!readPattern(this, table.kindOf[c], 0, 0)) {
                    return false;
                }
                table.setPattern(c, fit[0]);
            }
            int guard = NONE;
            if (scan.own == WORD_WHEN) {
                scan.step();
                guard = readNumber(0, GUARDS_MOST - 1);
                if (guard == NONE) {
                    return false;
                }
            }
            table.addArm(guard);
            return true;
        }

        private static boolean readPattern(Reader r, int kind, int slot, int depth) {
            if (depth > PATTERN_DEPTH || slot < 0 || slot >= r.fit.length) {
                return r.failHere();
            }
            fill(r.fit[slot], 0, r.table.kinds.sizeOf(kind) - 1, 0);
            for (int alternatives = 0; alternatives <= TAPE_MOST; alternatives++) {
                boolean good = kind == NUM ? r.readRange(slot) : readCase(r, kind, slot, depth);
                if (!good) {
                    return false;
                }
                if (r.scan.own != WORD_OR) {
                    return true;
                }
                r.scan.step();
            }
            return r.failHere();
        }

        private boolean readRange(int slot) {
            if (scan.own == WORD_ANY) {
                fill(fit[slot], 0, NUMS - 1, 1);
                scan.step();
                return true;
            }
            int low = readNumber(0, NUMS - 1);
            if (low == NONE) {
                return false;
            }
            int high = low;
            if (scan.own == WORD_TO) {
                scan.step();
                high = readNumber(low, NUMS - 1);
                if (high == NONE) {
                    return false;
                }
            }
            fill(fit[slot], low, high, 1);
            return true;
        }

        private static boolean readCase(Reader r, int kind, int slot, int depth) {
            Kinds kinds = r.table.kinds;
            if (r.scan.own == WORD_ANY) {
                fill(r.fit[slot], 0, kinds.sizeOf(kind) - 1, 1);
                r.scan.step();
                return true;
            }
            int con = r.readConName(kind);
            if (con == NONE) {
                return false;
            }
            if (kinds.fields[con] == 0) {
                fill(r.fit[slot], kinds.base[con], kinds.base[con], 1);
                return true;
            }
            int below = 2 * (depth + 1);
            if (!r.readSign('(') || !readPattern(r, kinds.fieldA[con], below, depth + 1)) {
                return false;
            }
            if (kinds.fields[con] == FIELDS_MOST) {
                if (!r.readSign(',') || !readPattern(r, kinds.fieldB[con], below + 1, depth + 1)) {
                    return false;
                }
            }
            r.fillCase(con, slot, below);
            return r.readSign(')');
        }

        private int readConName(int kind) {
            if (!scan.isName()) {
                failHere();
                return NONE;
            }
            int con = table.kinds.conNamedOf(kind, scan.value);
            if (con == NONE) {
                fail(FAULT_NAME, scan.at);
                return NONE;
            }
            scan.step();
            return con;
        }

        /** All values of a constructor whose fields fit what was read for them. */
        private void fillCase(int con, int slot, int below) {
            if (below < 0 || below + 1 >= fit.length) {
                return;
            }
            Kinds kinds = table.kinds;
            int firsts = kinds.sizeOf(kinds.fieldA[con]);
            int seconds = kinds.secondSize(con);
            boolean one = kinds.fields[con] < FIELDS_MOST;
            for (int a = 0; a < firsts && a < VALUES_ROOM; a++) {
                if (fit[below][a] == 0) {
                    continue;
                }
                int from = kinds.base[con] + a * seconds;
                for (int b = 0; b < seconds && b < VALUES_ROOM; b++) {
                    if (one || fit[below + 1][b] != 0) {
                        fill(fit[slot], from + b, from + b, 1);
                    }
                }
            }
        }

        private static void fill(int[] values, int from, int to, int with) {
            for (int v = Math.max(from, 0); v <= to && v < values.length; v++) {
                values[v] = with;
            }
        }

        int readRow(Bytes tape, Table of) {
            table = of;
            begin(tape);
            if (table.columns == 0) {
                fail(FAULT_SYNTAX, 0);
                return NONE;
            }
            int row = 0;
            for (int c = 0; c < table.columns; c++) {
                if (c > 0 && !readSign(',')) {
                    return NONE;
                }
                int value = readValue(this, table.kindOf[c], 0);
                if (value == NONE) {
                    return NONE;
                }
                row = row * table.size[c] + value;
            }
            if (scan.type != Scanner.END) {
                failHere();
                return NONE;
            }
            return row;
        }

        private static int readValue(Reader r, int kind, int depth) {
            if (kind == NUM) {
                return r.readNumber(0, NUMS - 1);
            }
            int con = depth > PATTERN_DEPTH ? NONE : r.readConName(kind);
            if (con == NONE) {
                return NONE;
            }
            Kinds kinds = r.table.kinds;
            if (kinds.fields[con] == 0) {
                return kinds.base[con];
            }
            int first = r.readSign('(') ? readValue(r, kinds.fieldA[con], depth + 1) : NONE;
            if (first == NONE) {
                return NONE;
            }
            int second = 0;
            if (kinds.fields[con] == FIELDS_MOST) {
                second = r.readSign(',') ? readValue(r, kinds.fieldB[con], depth + 1) : NONE;
            }
            if (second == NONE || !r.readSign(')')) {
                return NONE;
            }
            return kinds.base[con] + first * kinds.secondSize(con) + second;
        }
    }

    /** Which arms stand where, which guards are on, the rule. */
    private static final class Order {
        final int[] arm = new int[ARMS_MOST];
        int count;
        int on;
        int rule;

        void begin(int arms, int itsRule) {
            count = Math.max(0, Math.min(arms, ARMS_MOST));
            for (int place = 0; place < count; place++) {
                arm[place] = place;
            }
            on = GUARD_SETS - 1;
            rule = itsRule;
        }

        void copy(Order other) {
            for (int place = 0; place < ARMS_MOST; place++) {
                arm[place] = other.arm[place];
            }
            count = other.count;
            on = other.on;
            rule = other.rule;
        }

        boolean isPlace(int place) {
            return place >= 0 && place < count;
        }

        int armAt(int place) {
            return isPlace(place) ? arm[place] : NONE;
        }

        void exchange(int a, int b) {
            if (isPlace(a) && isPlace(b)) {
                int told = arm[a];
                arm[a] = arm[b];
                arm[b] = told;
            }
        }

        void takeOut(int out) {
            if (isPlace(out)) {
                for (int place = out; place + 1 < count; place++) {
                    arm[place] = arm[place + 1];
                }
                count--;
            }
        }

        int allArms() {
            int set = 0;
            for (int place = 0; place < count; place++) {
                set |= 1 << arm[place];
            }
            return set;
        }

        /** The first arm of a set, as told. */
        int firstOf(int set) {
            for (int place = 0; place < count; place++) {
                if (isIn(set, arm[place])) {
                    return arm[place];
                }
            }
            return NONE;
        }

        /** The arms without a guard ahead of a place. */
        int unguarded(Table table, int behind) {
            int set = 0;
            for (int place = 0; place < behind && place < count; place++) {
                if (table.guardOf(arm[place]) == NONE) {
                    set |= 1 << arm[place];
                }
            }
            return set;
        }

        /** The place of the arm that takes a row that fits these arms, with these guards on. */
        int placeTaking(Table table, int fitting, int guardsOn) {
            for (int place = 0; place < count; place++) {
                if (isIn(fitting, arm[place])) {
                    int guard = table.guardOf(arm[place]);
                    if (guard == NONE || isIn(guardsOn, guard)) {
                        return place;
                    }
                }
            }
            return NONE;
        }

        /**
         * Which arms can take a row that fits these arms, in their order, as one number. An arm
         * behind one without a guard, or behind one with its own guard, never takes the row; of
         * the others each takes it by its guard alone, so two orders take it alike for all guards
         * only if these numbers are one.
         */
        long takings(Table table, int fitting) {
            long code = 0;
            int met = 0;
            for (int place = 0; place < count; place++) {
                int told = arm[place];
                int guard = table.guardOf(told);
                if (!isIn(fitting, told) || guard != NONE && isIn(met, guard)) {
                    continue;
                }
                code = code * (ARMS_MOST + 1) + told + 1;
                if (guard == NONE) {
                    return code;
                }
                met |= 1 << guard;
            }
            return code;
        }
    }

    /** Which sets of arms were met since the latest renewal, and where they were put. */
    private static final class Marks {
        final int[] time = new int[ARM_SETS];
        final int[] spot = new int[ARM_SETS];
        int now;

        void renew() {
            now++;
        }

        boolean isNew(int set) {
            if (set < 0 || set >= ARM_SETS || time[set] == now) {
                return false;
            }
            time[set] = now;
            return true;
        }
    }

    /** Values or rows, those that fit the same arms together; they are added in one go. */
    private static final class Groups {
        final int[] arms;
        final int[] size;
        final Marks marks;
        int count;

        Groups(int room, Marks itsMarks) {
            arms = new int[Math.max(room, 0)];
            size = new int[Math.max(room, 0)];
            marks = itsMarks;
        }

        void begin() {
            count = 0;
            marks.renew();
        }

        void add(int set, int its) {
            if (set < 0 || set >= ARM_SETS) {
                return;
            }
            if (marks.isNew(set)) {
                if (count < arms.length) {
                    marks.spot[set] = count;
                    arms[count] = set;
                    size[count] = its;
                    count++;
                }
                return;
            }
            int spot = marks.spot[set];
            if (spot >= 0 && spot < count) {
                size[spot] += its;
            }
        }

        void addParts(Groups whole, int left) {
            for (int i = 0; i < whole.count; i++) {
                add(whole.arms[i] & left, whole.size[i]);
            }
        }

        void addProducts(Groups one, Groups other) {
            for (int i = 0; i < one.count; i++) {
                for (int j = 0; j < other.count; j++) {
                    add(one.arms[i] & other.arms[j], one.size[i] * other.size[j]);
                }
            }
        }

        void copy(Groups other) {
            count = Math.min(other.count, arms.length);
            for (int i = 0; i < count; i++) {
                arms[i] = other.arms[i];
                size[i] = other.size[i];
            }
        }
    }

    /** Decision trees. A node is a set of arms as told (left) and a set of columns (open). */
    private static final class Trees {
        final Groups[] column = new Groups[COLUMNS_MOST];
        // A node's branches are by how many columns are left there: below it these are fewer.
        final Groups[] branch = new Groups[COLUMNS_MOST];
        final Marks marks;
        // For each node what was counted below it, packed with the time: one row in place of four.
        final long[] counted = new long[NODE_SETS];
        int now;
        int unlike;
        final int[] scopesShut = new int[BUDGET_MOST];
        int scopesOpened;
        int scopesOpen;
        int scopesMost;
        int shutCount;
        boolean stopped;
        int rule;
        Table table;
        Order order;

        Trees(Table itsTable, Order itsOrder, Marks itsMarks) {
            table = itsTable;
            order = itsOrder;
            marks = itsMarks;
            for (int c = 0; c < COLUMNS_MOST; c++) {
                column[c] = new Groups(VALUES_ROOM, itsMarks);
                branch[c] = new Groups(VALUES_ROOM, itsMarks);
            }
        }

        void setTable(Table its) {
            table = its;
            for (int c = 0; c < table.columns && c < COLUMNS_MOST; c++) {
                column[c].begin();
                for (int v = 0; v < table.size[c]; v++) {
                    column[c].add(table.armsFitting(c, v), 1);
                }
            }
        }

        private int allColumns() {
            return (1 << table.columns) - 1;
        }

        /** The column that a node asks for; NONE when for none. */
        private int columnAsked(int left, int open) {
            int head = order.firstOf(left);
            int chosen = NONE;
            int least = 0;
            for (int c = 0; head != NONE && c < table.columns; c++) {
                if (isIn(open, c) && !isIn(table.full[c], head)) {
                    int cost = costOf(left, c);
                    if (chosen == NONE || cost < least) {
                        chosen = c;
                        least = cost;
                    }
                }
            }
            return chosen;
        }

        /** What the rule holds against a column: that with the least is asked for. */
        private int costOf(int left, int c) {
            switch (rule) {
                case 1: return -notFullInRow(left, c);
                case 2: return countBranches(left, c);
                case 3: return mostArms(left, c);
                default: return 0;
            }
        }

        private int notFullInRow(int left, int c) {
            int run = 0;
            for (int place = 0; place < order.count; place++) {
                int told = order.arm[place];
                if (isIn(left, told)) {
                    if (isIn(table.full[c], told)) {
                        return run;
                    }
                    run++;
                }
            }
            return run;
        }

        private int countBranches(int left, int c) {
            int found = 0;
            marks.renew();
            for (int i = 0; i < column[c].count; i++) {
                if (marks.isNew(column[c].arms[i] & left)) {
                    found++;
                }
            }
            return found;
        }

        private int mostArms(int left, int c) {
            int most = 0;
            for (int i = 0; i < column[c].count; i++) {
                most = Math.max(most, Integer.bitCount(column[c].arms[i] & left));
            }
            return most;
        }

        /** The branches of a node that asks for a column, by their least value. */
        private Groups split(int left, int open, int c) {
            int level = Integer.bitCount(open) - 1;
            Groups branches = branch[Math.max(0, Math.min(level, COLUMNS_MOST - 1))];
            branches.begin();
            branches.addParts(column[c], left);
            return branches;
        }

        private int rowsOf(int open) {
            int product = 1;
            for (int c = 0; c < table.columns; c++) {
                if (isIn(open, c)) {
                    product *= table.size[c];
                }
            }
            return product;
        }

        /** Counts what is in the whole tree: nodesIn, testsIn and longestIn tell it. */
        long measureAll(Order its, int itsRule) {
            order = its;
            rule = itsRule;
            now++;
            unlike = 0;
            return measure(this, order.allArms(), allColumns(), 0);
        }

        /** Counts what is below a node, once for all that are like it. */
        private static long measure(Trees t, int left, int open, int depth) {
            int key = open * ARM_SETS + left;
            if (key < 0 || key >= NODE_SETS || depth > TREE_DEPTH) {
                return 0;
            }
            if (t.counted[key] >>> COUNT_BITS == t.now) {
                return t.counted[key];
            }
            t.unlike++;
            int nodes = 1;
            int tests = 0;
            int longest = 0;
            int asked = t.columnAsked(left, open);
            int head = t.order.firstOf(left);
            int guard = t.table.guardOf(head);
            if (asked != NONE) {
                tests = t.rowsOf(open);
                Groups branches = t.split(left, open, asked);
                int rest = open & ~(1 << asked);
                for (int i = 0; i < branches.count; i++) {
                    long below = measure(t, branches.arms[i], rest, depth + 1);
                    nodes = Math.min(NODES_TOLD, nodes + nodesIn(below));
                    tests += branches.size[i] * testsIn(below);
                    longest = Math.max(longest, longestIn(below) + 1);
                }
            } else if (guard != NONE) {
                long below = measure(t, left & ~(1 << head), open, depth + 1);
                nodes = Math.min(NODES_TOLD, nodes + nodesIn(below));
                tests = isIn(t.order.on, guard) ? 0 : testsIn(below);
                longest = longestIn(below);
            }
            long counts = ((long) longest << TESTS_BITS | tests) << NODES_BITS | nodes;
            t.counted[key] = (long) t.now << COUNT_BITS | counts;
            return t.counted[key];
        }

        static int nodesIn(long counts) {
            return (int) (counts & (1 << NODES_BITS) - 1);
        }

        static int testsIn(long counts) {
            return (int) (counts >>> NODES_BITS & (1 << TESTS_BITS) - 1);
        }

        static int longestIn(long counts) {
            return (int) (counts >>> NODES_BITS + TESTS_BITS & 7);
        }

        int firstColumn(Order its, int itsRule) {
            order = its;
            rule = itsRule;
            int left = order.allArms();
            for (int doors = 0; doors <= ARMS_MOST; doors++) {
                int asked = columnAsked(left, allColumns());
                int head = order.firstOf(left);
                if (asked != NONE || head == NONE || table.guardOf(head) == NONE) {
                    return asked;
                }
                left &= ~(1 << head);
            }
            return NONE;
        }

        /** How many columns the tree asks for till a row ends. */
        int columnsAsked(Order its, int row) {
            order = its;
            rule = its.rule;
            int left = order.allArms();
            int open = allColumns();
            int count = 0;
            for (int steps = 0; steps <= TREE_DEPTH && left != 0; steps++) {
                int asked = columnAsked(left, open);
                if (asked != NONE) {
                    count++;
                    left &= table.armsFitting(asked, table.valueOf(row, asked));
                    open &= ~(1 << asked);
                } else {
                    int head = order.firstOf(left);
                    int guard = table.guardOf(head);
                    if (head == NONE || guard == NONE || isIn(order.on, guard)) {
                        return count;
                    }
                    left &= ~(1 << head);
                }
            }
            return count;
        }

        void buildAll(Order its, int itsRule) {
            order = its;
            rule = itsRule;
            scopesOpened = 0;
            scopesOpen = 0;
            scopesMost = 0;
            shutCount = 0;
            stopped = false;
            build(this, order.allArms(), allColumns(), 0);
        }

        private static void build(Trees t, int left, int open, int depth) {
            if (t.scopesOpened >= t.table.budget || depth > TREE_DEPTH) {
                t.stopped = true;
                return;
            }
            int scope = t.scopesOpened;
            t.openScope();
            int asked = t.columnAsked(left, open);
            int head = t.order.firstOf(left);
            if (asked != NONE) {
                Groups branches = t.split(left, open, asked);
                int rest = open & ~(1 << asked);
                for (int i = 0; i < branches.count && !t.stopped; i++) {
                    build(t, branches.arms[i], rest, depth + 1);
                }
            } else if (t.table.guardOf(head) != NONE) {
                build(t, left & ~(1 << head), open, depth + 1);
            }
            // When it was stopped, this shuts what stands open, too, from the latest on.
            t.shutScope(scope);
        }

        private void openScope() {
            scopesOpened++;
            scopesOpen++;
            scopesMost = Math.max(scopesMost, scopesOpen);
        }

        private void shutScope(int scope) {
            if (shutCount >= 0 && shutCount < scopesShut.length) {
                scopesShut[shutCount] = scope;
                shutCount++;
            }
            scopesOpen--;
        }

        int scopeShutAs(int k) {
            return k >= 0 && k < shutCount && k < scopesShut.length ? scopesShut[k] : NONE;
        }
    }

    /** The rows that were run, and what was ahead of the latest acts. */
    private static final class Acts {
        final int[] row = new int[KEPT_ROOM];
        final int[] arm = new int[KEPT_ROOM];
        final int[] asked = new int[KEPT_ROOM];
        final Order[] orderAhead = new Order[ACTS_MOST];
        final int[] keptAhead = new int[ACTS_MOST];
        int keptRows;
        int next;
        int undoable;

        Acts() {
            for (int i = 0; i < ACTS_MOST; i++) {
                orderAhead[i] = new Order();
            }
        }

        void clear() {
            keptRows = 0;
            undoable = 0;
        }

        int keptTold() {
            return Math.min(keptRows, KEPT_TOLD);
        }

        void keep(int itsRow, int itsArm, int itsAsked) {
            int spot = Math.floorMod(keptRows, KEPT_ROOM);
            row[spot] = itsRow;
            arm[spot] = itsArm;
            asked[spot] = itsAsked;
            keptRows++;
        }

        int tellKept(int k, int what) {
            if (k < 0 || k >= keptTold()) {
                return NONE;
            }
            int spot = Math.floorMod(keptRows - keptTold() + k, KEPT_ROOM);
            switch (what) {
                case 0: return row[spot];
                case 1: return arm[spot];
                case 2: return asked[spot];
                default: return NONE;
            }
        }

        /** An act begins: what there is can be put back. */
        void remember(Order its) {
            int spot = Math.floorMod(next, ACTS_MOST);
            orderAhead[spot].copy(its);
            keptAhead[spot] = keptRows;
            next = spot + 1;
            undoable = Math.min(undoable + 1, ACTS_MOST);
        }

        void takeBack(Order into) {
            int spot = Math.floorMod(next - 1, ACTS_MOST);
            into.copy(orderAhead[spot]);
            keptRows = keptAhead[spot];
            next = spot;
            undoable = Math.max(undoable - 1, 0);
        }
    }

    /** Which arms were seen to take rows, and by which guards that can be. */
    private static final class Seen {
        final int[] row = new int[SEEN_MOST];
        final int[] arm = new int[SEEN_MOST];
        int count;
        final int[] set = new int[GUARD_SETS];
        int sets;
        final int[] tally = new int[ARMS_MOST + 1];

        boolean read(Bytes tape, Table table, Order order) {
            int rows = tape.length / 3;
            if (rows < 1 || rows > SEEN_MOST || tape.length != 3 * rows) {
                return false;
            }
            for (int i = 0; i < rows; i++) {
                int place = tape.byteAt(3 * i + 2);
                if (!table.isRow(rowOn(tape, i)) || place != NO_ARM && !order.isPlace(place)) {
                    return false;
                }
            }
            count = rows;
            for (int i = 0; i < rows; i++) {
                row[i] = rowOn(tape, i);
                // The arm itself is seen: its place may change.
                arm[i] = order.armAt(tape.byteAt(3 * i + 2));
            }
            return true;
        }

        private static int rowOn(Bytes tape, int i) {
            return tape.byteAt(3 * i) * 256 + tape.byteAt(3 * i + 1);
        }

        void findSets(Table table, Order order) {
            sets = 0;
            for (int guards = 0; guards < GUARD_SETS; guards++) {
                if (agrees(table, order, guards)) {
                    set[sets] = guards;
                    sets++;
                }
            }
        }

        private boolean agrees(Table table, Order order, int guards) {
            for (int i = 0; i < count; i++) {
                int place = order.placeTaking(table, table.armsOf(row[i]), guards);
                if (order.armAt(place) != arm[i]) {
                    return false;
                }
            }
            return true;
        }

        /** How many sets are left at the most, when it is told which of these arms takes. */
        int mostLeft(Table table, Order order, int fitting) {
            for (int i = 0; i <= ARMS_MOST; i++) {
                tally[i] = 0;
            }
            int most = 0;
            for (int s = 0; s < sets && s < GUARD_SETS; s++) {
                int spot = order.placeTaking(table, fitting, set[s]) + 1;
                if (spot >= 0 && spot <= ARMS_MOST) {
                    tally[spot]++;
                    most = Math.max(most, tally[spot]);
                }
            }
            return most;
        }
    }
}
