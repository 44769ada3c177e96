import java.util.Arrays;

/**
 * A measuring house: programs of a small language, with arrays, failures, threads and locks, run step by step under
 * told turns; what happens in them is told exactly. The document's promises stand in ../shared/DOC.md.
 */
public final class MeasuringHouse {
    public static final int NONE = -1;

    private static final int TAPE_ROOM = 2000;
    private static final int FED_AT_ONCE = 20;
    private static final int NOTHING_DONE = -2;

    private static final int MOST_VARS = 8;
    private static final int MOST_MEMBERS = 24;
    private static final int MOST_PARAMETERS = 4;
    private static final int MOST_NAMES = 16;
    private static final int MOST_OPEN = 12;

    // Rooms are what 2,000 bytes can need at the most, also of texts that turn out to have a FAULT.
    private static final int MEMBER_ROOM = 410;
    private static final int NODE_ROOM = 1300;
    private static final int WAY_ROOM = 1100;
    private static final int LOOP_ROOM = 260;
    private static final int CODE_ROOM = 2700;
    private static final int PLAN_ROOM = 1200;
    private static final int NAME_ROOM = 700;

    private static final int ENTRY = 0;
    private static final int END = 1;
    private static final int FAILED = 2;
    private static final int PUT = 3;
    private static final int STORE = 4;
    private static final int CALL = 5;
    private static final int TEST = 6;
    private static final int BEGIN = 7;
    private static final int TURN = 8;
    private static final int RETURN = 9;
    private static final int THROW = 10;
    private static final int CATCH = 11;
    private static final int LOCK = 12;
    private static final int UNLOCK = 13;
    private static final int JOIN = 14;
    private static final int PRINT = 15;
    private static final int BREAK = 16;
    private static final int ELEMENT = 17;
    private static final int PRICES = 18;
    private static final int MOST_PRICE = 1000;

    private static final int MEMBER_PLACE = 0;
    private static final int MEMBER_PARAMETERS = 1;
    private static final int MEMBER_NAMES = 2;
    private static final int MEMBER_NODE = 3;
    private static final int MEMBER_WAY = 4;
    private static final int MEMBER_LOOP = 5;
    private static final int MEMBER_PLAN = 6;
    private static final int MEMBER_CODE = 7;

    private static final int NODE_KIND = 0;
    private static final int NODE_PLACE = 1;
    private static final int NODE_DEPTH = 2;
    private static final int NODE_WAY = 3;
    private static final int NODE_CODE = 4;
    private static final int NODE_LOOP = 5;
    private static final int NODE_LOCKS = 6;
    private static final int NODE_SLOT = 7;

    private static final int WAY_FROM = 0;
    private static final int WAY_TO = 1;
    private static final int WAY_SORT = 2;
    private static final int WAY_BACK = 3;

    private static final int ON = 0;
    private static final int YES = 1;
    private static final int NO = 2;
    private static final int BY_FAILURE = 3;

    private static final int LOOP_NODE = 0;
    private static final int LOOP_LAST = 1;
    private static final int LOOP_OUTER = 2;

    private static final int CODE_OP = 0;
    private static final int CODE_WHAT = 1;
    private static final int CODE_ARGUMENTS = 2;

    // Operators of two sides are their own signs; all others stand below the signs.
    private static final int OP_END = 0;
    private static final int OP_NUMBER = 1;
    private static final int OP_NIL = 2;
    private static final int OP_READ = 3;
    private static final int OP_VAR = 4;
    private static final int OP_NAME = 5;
    private static final int OP_ELEMENT = 6;
    private static final int OP_CALL = 7;
    private static final int OP_START = 8;
    private static final int OP_NEW = 9;
    private static final int OP_LEN = 10;
    private static final int OP_NOT = 11;
    private static final int OP_NEGATIVE = 12;

    private static final int PLAN_OP = 0;
    private static final int PLAN_NODE = 1;
    private static final int PLAN_OPEN = 0;
    private static final int PLAN_STATEMENT = 1;
    private static final int PLAN_IF = 2;
    private static final int PLAN_WHILE = 3;
    private static final int PLAN_FOR = 4;
    private static final int PLAN_TRY = 5;
    private static final int PLAN_LOCK = 6;

    /** Slots from here on are vars, those below are NAMES. */
    private static final int VAR_SLOT = 1000;
    private static final int NEVER_SET = -1;
    private static final int SET_OTHERWISE = -2;

    private static final int MOST_PATHS = 1000000;

    private static final int MOST_STEPS = 20000;
    private static final int MOST_STRANDS = 8;
    private static final int MOST_DEPTH = 40;
    private static final int MOST_ACTIVATIONS = 30000;
    private static final int MOST_LOCKS = 8;
    private static final int MOST_LOOKS = 400;
    private static final int MOST_KEEPERS = 4;
    private static final int MOST_WORKERS = 1000;
    private static final int FAILURE_KINDS = 10;
    private static final int NESTS = 12;
    private static final int OPERAND_ROOM = 128;
    private static final int WORK_ROOM = 1000000;

    private static final int NO_RUN = 0;
    private static final int GOES = 1;
    private static final int ENDED = 2;
    private static final int STUCK = 3;
    private static final int SPENT = 4;

    private static final int CAN_GO = 0;
    private static final int WAITS_FOR_LOCK = 1;
    private static final int WAITS_FOR_STRAND = 2;
    private static final int HAS_ENDED = 3;
    private static final int HAS_FAILED = 4;

    private static final int FRAME_MEMBER = 0;
    private static final int FRAME_NODE = 1;
    private static final int FRAME_CODE = 2;
    private static final int FRAME_PATH = 3;
    private static final int FRAME_TREE = 4;
    private static final int FRAME_LOCKS = 5;
    private static final int FRAME_BASE = 6;

    private static final int THROWN = 0;
    private static final int BY_ZERO = 1;
    private static final int NO_ELEMENT = 2;
    private static final int NIL_FOR_ARRAY = 3;
    private static final int WRONG_SORT = 4;
    private static final int WRONG_SIZE = 5;
    private static final int NO_ROOM = 6;
    private static final int TOO_MANY = 7;
    private static final int WRONG_TARGET = 8;
    private static final int OUT_OF_BOUNDS = 9;

    private static final int FAILURES_MADE = 0;
    private static final int FAILURES_CAUGHT = 1;
    private static final int FAILURES_ACTIVATIONS = 2;
    private static final int FAILURES_STRANDS = 3;

    private static final long GREATEST = 2147483647L;
    private static final long ARRAY_VALUE = 1L << 40;
    private static final long NIL_VALUE = 1L << 50;

    private final byte[] tape = new byte[TAPE_ROOM];
    private int fed = 0;
    private Text text = new Text();
    private Text spare = new Text();
    private boolean loaded = false;
    private int faultSort = NONE;
    private int faultPlace = NONE;
    private final Reader reader = new Reader(spare);
    private final Chart chart = new Chart();
    private final Formulas formulas = new Formulas(text);
    private final Keeper[] keepers = new Keeper[MOST_KEEPERS];
    private final Run present;
    private final int[] prices = new int[PRICES];
    private final int[] arguments = new int[MOST_PARAMETERS];
    private final boolean[] placeFull = new boolean[2];
    private final int[][] placeCalls = new int[2][MOST_MEMBERS];
    private final int[][] placeCosts = new int[2][MOST_MEMBERS];

    public MeasuringHouse() {
        for (int i = 0; i < MOST_KEEPERS; i++) {
            keepers[i] = new Keeper();
        }
        present = new Run(keepers, text, chart);
        Arrays.fill(prices, 1);
        prices[ELEMENT] = 0;
    }

    public int feed(int a, int b, int c, int d, int e) {
        if (fed + FED_AT_ONCE > TAPE_ROOM) {
            return NONE;
        }
        feedOne(a);
        feedOne(b);
        feedOne(c);
        feedOne(d);
        feedOne(e);
        return fed;
    }

    private void feedOne(int four) {
        for (int shift = 24; shift >= 0; shift -= 8) {
            if (fed < TAPE_ROOM) {
                tape[fed] = (byte) (four >> shift);
                fed++;
            }
        }
    }

    public int load(int n) {
        if (n < 0 || n > fed) {
            return NOTHING_DONE;
        }
        fed = 0;
        faultSort = reader.readText(tape, n, spare);
        faultPlace = reader.faultAt(faultSort);
        if (faultSort != 0) {
            return NONE;
        }
        Text old = text;
        text = spare;
        spare = old;
        loaded = true;
        forgetAll();
        chart.draw(text);
        chart.weighByDepth(text);
        return text.members;
    }

    private void forgetAll() {
        present.leave();
        formulas.forget();
        for (int i = 0; i < MOST_KEEPERS; i++) {
            keepers[i].watchNode(NONE);
        }
        placeFull[0] = false;
        placeFull[1] = false;
    }

    public int fault(int what) {
        if (what == 0) {
            return faultSort;
        }
        return what == 1 ? faultPlace : NONE;
    }

    private boolean hasMember(int m) {
        return loaded && m >= 0 && m < text.members;
    }

    public int member(int m, int what) {
        if (!hasMember(m)) {
            return NONE;
        }
        switch (what) {
            case 0:
                return text.member[MEMBER_PLACE][m];
            case 1:
                return text.member[MEMBER_PARAMETERS][m];
            case 2:
                return text.member[MEMBER_NAMES][m];
            case 3:
                return text.sizeOf(MEMBER_NODE, m);
            case 4:
                return text.sizeOf(MEMBER_WAY, m);
            case 5:
                return text.sizeOf(MEMBER_LOOP, m);
            case 6:
                return chart.numbered(m) ? chart.total[m] : NONE;
            case 7:
                return chart.probesOf(text, m);
            default:
                return NONE;
        }
    }

    public int node(int m, int node, int what) {
        int n = hasMember(m) ? text.own(MEMBER_NODE, m, node) : NONE;
        if (n == NONE || what < 0 || what > 2) {
            return NONE;
        }
        return text.node[what == 0 ? NODE_KIND : what == 1 ? NODE_PLACE : NODE_DEPTH][n];
    }

    public int way(int m, int way, int what) {
        int w = hasMember(m) ? text.own(MEMBER_WAY, m, way) : NONE;
        if (w == NONE) {
            return NONE;
        }
        switch (what) {
            case 0:
                return text.way[WAY_FROM][w] - text.member[MEMBER_NODE][m];
            case 1:
                return text.way[WAY_TO][w] - text.member[MEMBER_NODE][m];
            case 2:
                return text.way[WAY_SORT][w];
            case 3:
                return text.way[WAY_BACK][w];
            case 4:
                return chart.weight[w];
            case 5:
                return chart.probe[w] ? 1 : 0;
            default:
                return NONE;
        }
    }

    public int weigh(int how) {
        if (!loaded || how < 0 || how > 1 || (how == 1 && !present.isThere())) {
            return NONE;
        }
        if (how == 0) {
            chart.weighByDepth(text);
        } else {
            chart.weighByCounts(text, present.ledger.ways);
        }
        present.leave();
        return 1;
    }

    private static boolean isPrice(int kind, int price) {
        return kind >= PUT && kind <= ELEMENT && price >= 0 && price <= MOST_PRICE;
    }

    public int price(int kind, int price) {
        if (!isPrice(kind, price)) {
            return NONE;
        }
        int before = prices[kind];
        prices[kind] = price;
        return before;
    }

    public int argument(int i, int v) {
        if (i < 0 || i >= MOST_PARAMETERS || v < -GREATEST) {
            return NONE;
        }
        int before = arguments[i];
        arguments[i] = v;
        return before;
    }

    public int begin(int m, int seed, int fold, int every) {
        if (!hasMember(m) || seed < 0 || fold < 0 || fold > 1 || every < 0) {
            return NONE;
        }
        for (int i = 0; i < MOST_KEEPERS; i++) {
            keepers[i].empty();
        }
        present.prepare(text, prices, fold == 1);
        present.open(m, arguments, seed, every);
        return 1;
    }

    public int run(int n) {
        if (n < 0 || n > MOST_STEPS || !present.isThere()) {
            return NONE;
        }
        int done = 0;
        while (done < n && present.condition == GOES) {
            present.step();
            done++;
        }
        return done;
    }

    public int state(int what) {
        if (what == 0) {
            return present.condition;
        }
        return present.isThere() ? present.told(what) : NONE;
    }

    public int printed(int i) {
        return present.isThere() ? present.store.printedAt(i) : 0;
    }

    public int thread(int t, int what) {
        if (!present.isThere() || t < 0 || t >= present.strandCount) {
            return NONE;
        }
        return present.strandTold(t, what);
    }

    public int count(int m, int way) {
        int w = hasMember(m) && present.isThere() ? text.own(MEMBER_WAY, m, way) : NONE;
        return w == NONE ? NONE : present.ledger.ways[w];
    }

    public int gone(int m, int number) {
        if (!hasMember(m) || !present.isThere() || !chart.hasNumber(m, number)) {
            return NONE;
        }
        return present.ledger.goneBy(m, number);
    }

    public int path(int m, int number, int i) {
        if (!hasMember(m) || !chart.hasNumber(m, number)) {
            return NONE;
        }
        return chart.wayOf(text, m, number, i);
    }

    public int most(int m, int k) {
        if (!hasMember(m) || !present.isThere() || k < 0) {
            return NONE;
        }
        return present.ledger.mostGone(m, k);
    }

    public int loop(int m, int loop, int what) {
        int l = hasMember(m) && present.isThere() ? text.own(MEMBER_LOOP, m, loop) : NONE;
        if (l == NONE || what < 0 || what > Ledger.LOOP_ROWS) {
            return NONE;
        }
        if (what == 0) {
            return text.loop[LOOP_NODE][l] - text.member[MEMBER_NODE][m];
        }
        return present.ledger.loops[what - 1][l];
    }

    public int tree(int node, int what) {
        if (!present.isThere() || node < 0 || node >= present.costs.treeNodes) {
            return NONE;
        }
        return present.costs.treeTold(node, what);
    }

    public int look() {
        return present.isThere() ? present.lookAround() : NONE;
    }

    public int seen(int k, int what) {
        return present.isThere() ? present.store.lookTold(k, what) : NONE;
    }

    public int made(int array, int what) {
        return present.isThere() ? present.store.arrayTold(array, what) : NONE;
    }

    public int held(int array) {
        if (!present.isThere() || !present.store.hasArray(array)) {
            return NONE;
        }
        present.gather();
        return present.store.holder[array];
    }

    public int lock(int lock, int what) {
        if (!present.isThere() || lock < 0 || lock >= MOST_LOCKS) {
            return NONE;
        }
        return present.lockTold(lock, what);
    }

    public int longest(int workers) {
        if (!present.isThere() || workers < 0 || workers > MOST_WORKERS) {
            return NONE;
        }
        int longest = present.costs.longestWay(NONE, 0);
        if (workers == 0) {
            return longest;
        }
        return Math.max(longest, (present.costs.cost + workers - 1) / workers);
    }

    public int gain(int kind, int price) {
        if (!present.isThere() || !isPrice(kind, price)) {
            return NONE;
        }
        return present.costs.longestWay(kind, price);
    }

    public int thrown(int failure, int what) {
        if (!present.isThere() || failure < 0 || failure >= FAILURE_KINDS) {
            return NONE;
        }
        return what < 0 || what > FAILURES_STRANDS ? NONE : present.ledger.failures[what][failure];
    }

    private static boolean isKeeper(int keeper) {
        return keeper >= 0 && keeper < MOST_KEEPERS;
    }

    public int watch(int keeper, int m, int node) {
        int n = hasMember(m) ? text.own(MEMBER_NODE, m, node) : NONE;
        if (!isKeeper(keeper) || n == NONE || text.node[NODE_KIND][n] != PUT) {
            return NONE;
        }
        keepers[keeper].watchNode(n);
        return 1;
    }

    public long kept(int keeper, int k, int what) {
        if (!isKeeper(keeper)) {
            return 0;
        }
        return k == NONE ? keepers[keeper].toldOfAll(what) : keepers[keeper].toldOfRow(k, what);
    }

    public int keep(int place) {
        if (place < 0 || place > 1 || !present.isThere()) {
            return NONE;
        }
        System.arraycopy(present.ledger.memberCalls, 0, placeCalls[place], 0, MOST_MEMBERS);
        System.arraycopy(present.ledger.memberCosts, 0, placeCosts[place], 0, MOST_MEMBERS);
        placeFull[place] = true;
        return 1;
    }

    public long parts(int m, int what) {
        if (!hasMember(m) || !placeFull[0] || !placeFull[1]) {
            return 0;
        }
        long calls = placeCalls[0][m];
        long cost = placeCosts[0][m];
        long all = placeCosts[1][m] - cost;
        long byCalls = calls == 0 ? 0 : Math.floorDiv((placeCalls[1][m] - calls) * cost, calls);
        long byNew = calls == 0 ? placeCosts[1][m] : 0;
        switch (what) {
            case 0:
                return all;
            case 1:
                return byCalls;
            case 2:
                return byNew;
            case 3:
                return all - byCalls - byNew;
            default:
                return 0;
        }
    }

    public long bound(int m, int i, int what) {
        if (!hasMember(m)) {
            return NONE;
        }
        formulas.workOut(text);
        return i == NONE ? formulas.toldOfAll(m, what) : formulas.toldOfTerm(m, i, what);
    }

    public long worst(int m, int a, int b, int c, int d) {
        if (!hasMember(m)) {
            return NONE;
        }
        formulas.workOut(text);
        return formulas.worstOf(m, a, b, c, d);
    }

    private static boolean isNumber(long value) {
        return value >= -GREATEST && value <= GREATEST;
    }

    private static boolean isArray(long value) {
        return value >= ARRAY_VALUE && value < NIL_VALUE;
    }

    private static boolean isTrue(long value) {
        return value != 0 && value != NIL_VALUE;
    }

    private static void sortDown(long[] row, int n) {
        for (int i = n / 2 - 1; i >= 0; i--) {
            sink(row, i, n);
        }
        for (int last = n - 1; last > 0; last--) {
            long least = row[0];
            row[0] = row[last];
            row[last] = least;
            sink(row, 0, last);
        }
    }

    private static void sink(long[] row, int from, int n) {
        int above = from;
        for (int child = 2 * from + 1; child < n; child = 2 * above + 1) {
            if (child + 1 < n && row[child + 1] < row[child]) {
                child++;
            }
            if (row[above] <= row[child]) {
                return;
            }
            long lesser = row[child];
            row[child] = row[above];
            row[above] = lesser;
            above = child;
        }
    }

    /** A text that has been read. Nodes, ways and loops of all members stand in one row each, member by member. */
    private static final class Text {
        int members = 0;
        int nodes = 0;
        int ways = 0;
        int loops = 0;
        int codes = 0;
        int plans = 0;
        int vars = 0;
        final int[][] member = new int[8][MEMBER_ROOM];
        final int[][] node = new int[8][NODE_ROOM];
        final int[][] way = new int[4][WAY_ROOM];
        final int[][] loop = new int[3][LOOP_ROOM];
        final int[][] code = new int[3][CODE_ROOM];
        final int[][] plan = new int[2][PLAN_ROOM];
        final int[] setter = new int[MOST_MEMBERS * MOST_NAMES];

        void clear() {
            members = 0;
            nodes = 0;
            ways = 0;
            loops = 0;
            codes = 0;
            plans = 0;
            vars = 0;
            Arrays.fill(setter, NEVER_SET);
        }

        void addMember(int place) {
            markMember();
            member[MEMBER_PLACE][members] = place;
            member[MEMBER_PARAMETERS][members] = 0;
            member[MEMBER_NAMES][members] = 0;
            if (members + 1 < MEMBER_ROOM) {
                members++;
            }
        }

        /** Where the next member would begin: behind the last one this tells where that one ends. */
        private void markMember() {
            member[MEMBER_NODE][members] = nodes;
            member[MEMBER_WAY][members] = ways;
            member[MEMBER_LOOP][members] = loops;
            member[MEMBER_PLAN][members] = plans;
            member[MEMBER_CODE][members] = codes;
        }

        int addNode(int kind, int place) {
            int n = nodes;
            node[NODE_KIND][n] = kind;
            node[NODE_PLACE][n] = place;
            node[NODE_WAY][n] = ways;
            node[NODE_CODE][n] = codes;
            node[NODE_SLOT][n] = NONE;
            if (nodes + 1 < NODE_ROOM) {
                nodes++;
            }
            return n;
        }

        int addWay(int from, int to, int sort) {
            int w = ways;
            way[WAY_FROM][w] = from;
            way[WAY_TO][w] = to;
            way[WAY_SORT][w] = sort;
            way[WAY_BACK][w] = 0;
            if (ways + 1 < WAY_ROOM) {
                ways++;
            }
            return w;
        }

        int addLoop(int outer) {
            int l = loops;
            loop[LOOP_NODE][l] = nodes;
            loop[LOOP_LAST][l] = nodes;
            loop[LOOP_OUTER][l] = outer;
            if (loops + 1 < LOOP_ROOM) {
                loops++;
            }
            return l;
        }

        void addCode(int op, int what, int arguments) {
            code[CODE_OP][codes] = op;
            code[CODE_WHAT][codes] = what;
            code[CODE_ARGUMENTS][codes] = arguments;
            if (codes + 1 < CODE_ROOM) {
                codes++;
            }
        }

        void addPlan(int op, int n) {
            plan[PLAN_OP][plans] = op;
            plan[PLAN_NODE][plans] = n;
            if (plans + 1 < PLAN_ROOM) {
                plans++;
            }
        }

        void close() {
            markMember();
            node[NODE_WAY][nodes] = ways;
            for (int w = 0; w < ways; w++) {
                int to = way[WAY_TO][w];
                int l = loopAt(to);
                if (l != NONE && isInLoop(way[WAY_FROM][w], l)) {
                    way[WAY_BACK][w] = 1;
                }
            }
        }

        /** The loop of which a node is the TEST or TURN. */
        int loopAt(int n) {
            int l = node[NODE_LOOP][n];
            return l != NONE && loop[LOOP_NODE][l] == n ? l : NONE;
        }

        boolean isInLoop(int n, int l) {
            return n >= loop[LOOP_NODE][l] && n <= loop[LOOP_LAST][l];
        }

        boolean isLastOfPath(int w) {
            int kind = node[NODE_KIND][way[WAY_TO][w]];
            return way[WAY_BACK][w] == 1 || kind == END || kind == FAILED;
        }

        int sizeOf(int row, int m) {
            return member[row][m + 1] - member[row][m];
        }

        /** The number in the whole row of what has a number in its member. */
        int own(int row, int m, int number) {
            return number >= 0 && number < sizeOf(row, m) ? member[row][m] + number : NONE;
        }

        int failureWay(int n) {
            int kind = node[NODE_KIND][n];
            int ahead = kind == TEST ? 2 : kind == THROW ? 0 : 1;
            return node[NODE_WAY][n] + ahead;
        }
    }

    /**
     * Reads a text in one go: tokens, then nodes, ways and code as the statements come. Ways whose end is not told yet
     * hang together in lists, each one's WAY_TO telling the next one of its list.
     */
    private static final class Reader {
        private static final String KEY_WORDS =
            "var if else while for to return throw try catch lock join print break nil start new len ";
        private static final int TOKEN_END = 0;
        private static final int TOKEN_BAD = 1;
        private static final int TOKEN_WORD = 2;
        private static final int TOKEN_NUMBER = 3;
        private static final int KEY_FIRST = 200;
        private static final int KEY_VAR = 200;
        private static final int KEY_IF = 201;
        private static final int KEY_ELSE = 202;
        private static final int KEY_WHILE = 203;
        private static final int KEY_FOR = 204;
        private static final int KEY_TO = 205;
        private static final int KEY_RETURN = 206;
        private static final int KEY_THROW = 207;
        private static final int KEY_TRY = 208;
        private static final int KEY_CATCH = 209;
        private static final int KEY_LOCK = 210;
        private static final int KEY_JOIN = 211;
        private static final int KEY_PRINT = 212;
        private static final int KEY_BREAK = 213;
        private static final int KEY_NIL = 214;
        private static final int KEY_START = 215;
        private static final int KEY_NEW = 216;
        private static final int KEY_LEN = 217;
        private static final int KEYS = 18;
        private static final int WORD_LENGTH = 8;
        private static final int NUMBER_LENGTH = 9;
        private static final int LETTERS = 37;
        private static final int LEVELS = 5;
        private static final int LEVEL_COMPARED = 2;
        private static final int LIST_END = -1;
        private static final int OUTSIDE = -2;

        private final long[] keys = new long[KEYS];
        private final int[] kinds = new int[TAPE_ROOM + 2];
        private final int[] places = new int[TAPE_ROOM + 2];
        private final long[] words = new long[TAPE_ROOM + 2];
        private final long[] vars = new long[MOST_VARS];
        private final long[] memberWords = new long[MEMBER_ROOM];
        private final long[] names = new long[NAME_ROOM];
        private int nameCount = 0;
        private Text text;
        private int tokens = 0;
        private int now = 0;
        private int open = 0;
        private int faultPlace = NONE;
        private int rulePlace = NONE;
        private int pending = LIST_END;
        private int failing = OUTSIDE;
        private int breaks = OUTSIDE;
        private int innerLoop = NONE;
        private int loopDepth = 0;
        private int lockDepth = 0;

        Reader(Text first) {
            text = first;
            int key = 0;
            for (int i = 0; i < KEY_WORDS.length(); i++) {
                if (KEY_WORDS.charAt(i) == ' ') {
                    key++;
                } else if (key < KEYS) {
                    keys[key] = keys[key] * LETTERS + letter(KEY_WORDS.charAt(i));
                }
            }
        }

        /** Reads a text: 0, or its FAULT. */
        int readText(byte[] bytes, int n, Text into) {
            text = into;
            text.clear();
            now = 0;
            open = 0;
            faultPlace = NONE;
            rulePlace = NONE;
            split(bytes, n);
            readVars();
            for (int i = 0; i < MEMBER_ROOM && faultPlace == NONE && (i == 0 || !at(TOKEN_END)); i++) {
                readMember();
            }
            if (faultPlace != NONE) {
                return 1;
            }
            findCalled();
            if (rulePlace != NONE) {
                return 2;
            }
            text.close();
            return 0;
        }

        int faultAt(int fault) {
            return fault == 1 ? faultPlace : fault == 2 ? rulePlace : NONE;
        }

        private static int letter(int c) {
            if (c >= 'a' && c <= 'z') {
                return c - 'a' + 1;
            }
            return isDigit(c) ? c - '0' + 27 : 0;
        }

        private static boolean isDigit(int c) {
            return c >= '0' && c <= '9';
        }

        private static boolean isSign(int c) {
            switch (c) {
                case '{': case '}': case '(': case ')': case '[': case ']': case ',': case ';': case '=': case '#':
                case '<': case '>': case '+': case '-': case '*': case '/': case '%': case '&': case '|': case '!':
                    return true;
                default:
                    return false;
            }
        }

        private void split(byte[] bytes, int n) {
            tokens = 0;
            int i = 0;
            while (i < n) {
                int c = bytes[i] & 255;
                int length = 1;
                if (isDigit(c)) {
                    length = splitNumber(bytes, i, n);
                } else if (letter(c) != 0) {
                    length = splitWord(bytes, i, n);
                } else if (c != ' ' && c != '\n') {
                    addToken(isSign(c) ? c : TOKEN_BAD, i, 0);
                }
                i += Math.max(1, length);
            }
            addToken(TOKEN_END, n, 0);
        }

        private void addToken(int kind, int place, long word) {
            kinds[tokens] = kind;
            places[tokens] = place;
            words[tokens] = word;
            if (tokens <= TAPE_ROOM) {
                tokens++;
            }
        }

        private int splitNumber(byte[] bytes, int from, int n) {
            int end = from;
            long number = 0;
            while (end < n && isDigit(bytes[end] & 255)) {
                if (end - from < NUMBER_LENGTH) {
                    number = number * 10 + (bytes[end] & 255) - '0';
                }
                end++;
            }
            addToken(end - from > NUMBER_LENGTH ? TOKEN_BAD : TOKEN_NUMBER, from, number);
            return end - from;
        }

        private int splitWord(byte[] bytes, int from, int n) {
            int end = from;
            long word = 0;
            while (end < n && letter(bytes[end] & 255) != 0) {
                if (end - from < WORD_LENGTH) {
                    word = word * LETTERS + letter(bytes[end] & 255);
                }
                end++;
            }
            addToken(end - from > WORD_LENGTH ? TOKEN_BAD : kindOfWord(word), from, word);
            return end - from;
        }

        private int kindOfWord(long word) {
            for (int i = 0; i < KEYS; i++) {
                if (keys[i] == word) {
                    return KEY_FIRST + i;
                }
            }
            return TOKEN_WORD;
        }

        private boolean at(int kind) {
            return faultPlace == NONE && kinds[now] == kind;
        }

        private void next() {
            if (faultPlace == NONE && now + 1 < tokens) {
                now++;
            }
        }

        private void refuse() {
            if (faultPlace == NONE) {
                faultPlace = places[now];
            }
        }

        private void expect(int kind) {
            if (at(kind)) {
                next();
            } else {
                refuse();
            }
        }

        private void openWith(int kind) {
            if (at(kind) && open < MOST_OPEN) {
                open++;
                next();
            } else {
                refuse();
            }
        }

        private void closeWith(int kind) {
            if (at(kind)) {
                open--;
                next();
            } else {
                refuse();
            }
        }

        private void breakRule(int token) {
            int place = places[token];
            if (rulePlace == NONE || place < rulePlace) {
                rulePlace = place;
            }
        }

        private void readVars() {
            for (int i = 0; i < TAPE_ROOM && at(KEY_VAR); i++) {
                next();
                if (at(TOKEN_WORD)) {
                    tellVar();
                }
                expect(TOKEN_WORD);
                expect(';');
            }
        }

        private void tellVar() {
            if (text.vars >= MOST_VARS || varOf(words[now]) != NONE) {
                breakRule(now);
            } else {
                vars[text.vars] = words[now];
                text.vars++;
            }
        }

        private static int placeIn(long[] row, int n, long word) {
            for (int i = 0; i < n; i++) {
                if (row[i] == word) {
                    return i;
                }
            }
            return NONE;
        }

        private int varOf(long word) {
            return placeIn(vars, text.vars, word);
        }

        private void readMember() {
            int m = text.members;
            int place = places[now];
            if (at(TOKEN_WORD)) {
                tellMember();
            }
            expect(TOKEN_WORD);
            nameCount = 0;
            openWith('(');
            readParameters(m);
            closeWith(')');
            openGraph(place);
            readBody();
            follow(pending, text.member[MEMBER_NODE][m] + END);
            text.member[MEMBER_NAMES][m] = nameCount;
            findRead(m);
        }

        private void tellMember() {
            long word = words[now];
            int m = text.members;
            if (m >= MOST_MEMBERS || varOf(word) != NONE || placeIn(memberWords, m, word) != NONE) {
                breakRule(now);
            }
            memberWords[m] = word;
            text.addMember(places[now]);
        }

        private void readParameters(int m) {
            for (int i = 0; i < TAPE_ROOM && (i == 0 ? at(TOKEN_WORD) : at(',')); i++) {
                if (i > 0) {
                    next();
                }
                if (at(TOKEN_WORD)) {
                    tellParameter(i);
                }
                expect(TOKEN_WORD);
                text.member[MEMBER_PARAMETERS][m] = i + 1;
            }
        }

        private void tellParameter(int i) {
            long word = words[now];
            if (i >= MOST_PARAMETERS || varOf(word) != NONE || placeIn(names, nameCount, word) != NONE) {
                breakRule(now);
            }
            nameOf(word);
        }

        private int nameOf(long word) {
            int name = placeIn(names, nameCount, word);
            if (name != NONE || nameCount >= NAME_ROOM) {
                return name;
            }
            names[nameCount] = word;
            nameCount++;
            return nameCount - 1;
        }

        private void openGraph(int place) {
            pending = LIST_END;
            failing = OUTSIDE;
            breaks = OUTSIDE;
            innerLoop = NONE;
            loopDepth = 0;
            lockDepth = 0;
            addNode(ENTRY, place);
            int afterEntry = pending;
            pending = LIST_END;
            addNode(END, place);
            addNode(FAILED, place);
            pending = afterEntry;
        }

        /** A node to which all pending ways go, with its ways, of which those on (or yes) are pending then. */
        private int addNode(int kind, int place) {
            int n = text.addNode(kind, place);
            text.node[NODE_DEPTH][n] = loopDepth;
            text.node[NODE_LOOP][n] = innerLoop;
            text.node[NODE_LOCKS][n] = lockDepth;
            follow(pending, n);
            pending = LIST_END;
            if (kind != END && kind != FAILED) {
                addWays(n, kind);
            }
            return n;
        }

        private void addWays(int n, int kind) {
            if (kind == TEST || kind == TURN) {
                pending = text.addWay(n, LIST_END, YES);
                text.addWay(n, LIST_END, NO);
            } else if (kind == RETURN) {
                text.addWay(n, endNode(END), ON);
            } else if (kind == BREAK) {
                breaks = text.addWay(n, breaks, ON);
            } else if (kind != THROW) {
                pending = text.addWay(n, LIST_END, ON);
            }
            boolean failsNever = kind == ENTRY || kind == TURN || kind == CATCH || kind == UNLOCK || kind == BREAK;
            if (!failsNever && failing == OUTSIDE) {
                text.addWay(n, endNode(FAILED), BY_FAILURE);
            } else if (!failsNever) {
                failing = text.addWay(n, failing, BY_FAILURE);
            }
        }

        private int endNode(int kind) {
            return text.members > 0 ? text.member[MEMBER_NODE][text.members - 1] + kind : 0;
        }

        private void follow(int list, int n) {
            int w = list;
            for (int i = 0; i < WAY_ROOM && w >= 0; i++) {
                int following = text.way[WAY_TO][w];
                text.way[WAY_TO][w] = n;
                w = following;
            }
        }

        private int joined(int list, int other) {
            if (list < 0) {
                return other;
            }
            int last = list;
            for (int i = 0; i < WAY_ROOM && text.way[WAY_TO][last] >= 0; i++) {
                last = text.way[WAY_TO][last];
            }
            text.way[WAY_TO][last] = other;
            return list;
        }

        private void readBody() {
            openWith('{');
            for (int i = 0; i < TAPE_ROOM && faultPlace == NONE && !at('}'); i++) {
                readStatement();
            }
            closeWith('}');
        }

        private void readStatement() {
            switch (kinds[now]) {
                case TOKEN_WORD:
                    readWordStatement(now);
                    break;
                case KEY_IF:
                    readIf();
                    break;
                case KEY_WHILE:
                    readWhile();
                    break;
                case KEY_FOR:
                    readFor();
                    break;
                case KEY_RETURN:
                    readPlain(RETURN);
                    break;
                case KEY_THROW:
                    readPlain(THROW);
                    break;
                case KEY_TRY:
                    readTry();
                    break;
                case KEY_LOCK:
                    readLock();
                    break;
                case KEY_JOIN:
                    readPlain(JOIN);
                    break;
                case KEY_PRINT:
                    readPlain(PRINT);
                    break;
                case KEY_BREAK:
                    readBreak();
                    break;
                default:
                    refuse();
            }
        }

        private void readWordStatement(int word) {
            next();
            int kind = at('=') ? PUT : at('[') ? STORE : CALL;
            int n = addNode(kind, places[word]);
            if (kind == CALL) {
                readArguments(OP_CALL, word);
            } else {
                if (kind == PUT) {
                    text.node[NODE_SLOT][n] = tellSet(word, SET_OTHERWISE);
                } else {
                    text.addCode(OP_READ, word, 0);
                    readBetween('[', ']');
                }
                expect('=');
                readExpression(0);
            }
            endStatement(n);
        }

        private void readPlain(int kind) {
            int n = addNode(kind, places[now]);
            next();
            readExpression(0);
            endStatement(n);
        }

        private void endStatement(int n) {
            expect(';');
            text.addCode(OP_END, 0, 0);
            text.addPlan(PLAN_STATEMENT, n);
        }

        private void readBreak() {
            if (innerLoop == NONE) {
                breakRule(now);
            }
            int n = addNode(BREAK, places[now]);
            next();
            endStatement(n);
        }

        private void readCondition() {
            openWith('(');
            readExpression(0);
            closeWith(')');
            text.addCode(OP_END, 0, 0);
        }

        private void readInnerBody() {
            text.addPlan(PLAN_OPEN, NONE);
            readBody();
        }

        private void readIf() {
            int n = addNode(TEST, places[now]);
            next();
            readCondition();
            readInnerBody();
            int behindYes = pending;
            pending = text.node[NODE_WAY][n] + 1;
            if (at(KEY_ELSE)) {
                next();
                readInnerBody();
            } else {
                text.addPlan(PLAN_OPEN, NONE);
            }
            pending = joined(behindYes, pending);
            text.addPlan(PLAN_IF, n);
        }

        private void readWhile() {
            int outerBreaks = breaks;
            openLoop();
            int n = addNode(TEST, places[now]);
            next();
            readCondition();
            readInnerBody();
            closeLoop(n, outerBreaks);
            text.addPlan(PLAN_WHILE, n);
        }

        private void readFor() {
            int place = places[now];
            int n = addNode(BEGIN, place);
            next();
            int slot = at(TOKEN_WORD) ? tellBound(now, n) : NONE;
            expect(TOKEN_WORD);
            expect('=');
            readExpression(0);
            expect(KEY_TO);
            readExpression(0);
            text.addCode(OP_END, 0, 0);
            int outerBreaks = breaks;
            openLoop();
            int turn = addNode(TURN, place);
            text.node[NODE_SLOT][turn] = slot;
            text.addCode(OP_END, 0, 0);
            readInnerBody();
            closeLoop(turn, outerBreaks);
            text.addPlan(PLAN_FOR, n);
        }

        private void openLoop() {
            breaks = LIST_END;
            innerLoop = text.addLoop(innerLoop);
            loopDepth++;
        }

        private void closeLoop(int n, int outerBreaks) {
            follow(pending, n);
            text.loop[LOOP_LAST][innerLoop] = text.nodes - 1;
            pending = joined(breaks, text.node[NODE_WAY][n] + 1);
            breaks = outerBreaks;
            innerLoop = text.loop[LOOP_OUTER][innerLoop];
            loopDepth--;
        }

        private void readTry() {
            next();
            int outerFailing = failing;
            failing = LIST_END;
            readInnerBody();
            int failed = failing;
            failing = outerFailing;
            int behind = pending;
            pending = failed;
            int n = addNode(CATCH, places[now]);
            text.addCode(OP_END, 0, 0);
            expect(KEY_CATCH);
            if (at(TOKEN_WORD)) {
                text.node[NODE_SLOT][n] = tellBound(now, SET_OTHERWISE);
            }
            expect(TOKEN_WORD);
            readInnerBody();
            pending = joined(behind, pending);
            text.addPlan(PLAN_TRY, n);
        }

        private void readLock() {
            int n = addNode(LOCK, places[now]);
            next();
            readExpression(0);
            text.addCode(OP_END, 0, 0);
            lockDepth++;
            readInnerBody();
            addNode(UNLOCK, places[Math.max(0, now - 1)]);
            text.addCode(OP_END, 0, 0);
            lockDepth--;
            text.addPlan(PLAN_LOCK, n);
        }

        /** The W of a for or a catch is set. */
        private int tellBound(int word, int by) {
            if (varOf(words[word]) != NONE) {
                breakRule(word);
            }
            return tellSet(word, by);
        }

        /** A W is set, by the for of a node or otherwise: its slot. */
        private int tellSet(int word, int by) {
            int v = varOf(words[word]);
            if (v != NONE) {
                return VAR_SLOT + v;
            }
            int known = nameCount;
            int slot = nameOf(words[word]);
            if (nameCount > known && nameCount > MOST_NAMES) {
                breakRule(word);
            }
            if (slot != NONE && isTurning(slot)) {
                breakRule(word);
            }
            noteSetter(slot, by);
            return slot;
        }

        private boolean isTurning(int slot) {
            int l = innerLoop;
            for (int i = 0; i < LOOP_ROOM && l != NONE; i++) {
                if (text.node[NODE_SLOT][text.loop[LOOP_NODE][l]] == slot) {
                    return true;
                }
                l = text.loop[LOOP_OUTER][l];
            }
            return false;
        }

        private void noteSetter(int slot, int by) {
            int m = text.members - 1;
            if (m >= 0 && m < MOST_MEMBERS && slot >= 0 && slot < MOST_NAMES) {
                int i = m * MOST_NAMES + slot;
                text.setter[i] = text.setter[i] == NEVER_SET ? by : SET_OTHERWISE;
            }
        }

        private static int levelOf(int kind) {
            switch (kind) {
                case '|':
                    return 0;
                case '&':
                    return 1;
                case '=': case '#': case '<': case '>':
                    return LEVEL_COMPARED;
                case '+': case '-':
                    return 3;
                case '*': case '/': case '%':
                    return 4;
                default:
                    return NONE;
            }
        }

        /** An expression of operators of a level and closer ones; what may be open keeps its depth low. */
        private void readExpression(int level) {
            if (level >= LEVELS) {
                readFactor();
                return;
            }
            readExpression(level + 1);
            int most = level == LEVEL_COMPARED ? 1 : TAPE_ROOM;
            for (int i = 0; i < most && faultPlace == NONE && levelOf(kinds[now]) == level; i++) {
                int op = kinds[now];
                next();
                readExpression(level + 1);
                text.addCode(op, 0, 0);
            }
        }

        private void readFactor() {
            switch (kinds[now]) {
                case TOKEN_NUMBER:
                    text.addCode(OP_NUMBER, (int) words[now], 0);
                    next();
                    break;
                case KEY_NIL:
                    text.addCode(OP_NIL, 0, 0);
                    next();
                    break;
                case TOKEN_WORD:
                    readWordFactor();
                    break;
                case KEY_START:
                    next();
                    int word = now;
                    expect(TOKEN_WORD);
                    readArguments(OP_START, word);
                    break;
                case KEY_NEW:
                    next();
                    readBetween('[', ']');
                    text.addCode(OP_NEW, 0, 0);
                    break;
                case KEY_LEN:
                    readAhead(OP_LEN);
                    break;
                case '!':
                    readAhead(OP_NOT);
                    break;
                case '-':
                    readAhead(OP_NEGATIVE);
                    break;
                case '(':
                    readBetween('(', ')');
                    break;
                default:
                    refuse();
            }
        }

        private void readBetween(int opening, int closing) {
            openWith(opening);
            if (faultPlace == NONE) {
                readExpression(0);
            }
            closeWith(closing);
        }

        private void readAhead(int op) {
            openWith(kinds[now]);
            if (faultPlace == NONE) {
                readFactor();
                open--;
            }
            text.addCode(op, 0, 0);
        }

        private void readWordFactor() {
            int word = now;
            next();
            if (at('(')) {
                readArguments(OP_CALL, word);
                return;
            }
            text.addCode(OP_READ, word, 0);
            if (at('[')) {
                readBetween('[', ']');
                text.addCode(OP_ELEMENT, 0, 0);
            }
        }

        private void readArguments(int op, int word) {
            openWith('(');
            int count = 0;
            if (faultPlace == NONE && !at(')')) {
                readExpression(0);
                count++;
                for (int i = 0; i < TAPE_ROOM && at(','); i++) {
                    next();
                    readExpression(0);
                    count++;
                }
            }
            closeWith(')');
            text.addCode(op, word, count);
        }

        /** NAMES may be set behind where they are read, so what a W means is known at the member's end only. */
        private void findRead(int m) {
            if (m >= text.members) {
                return;
            }
            for (int i = text.member[MEMBER_CODE][m]; i < text.codes; i++) {
                if (text.code[CODE_OP][i] == OP_READ) {
                    findWord(i);
                }
            }
        }

        private void findWord(int i) {
            int word = text.code[CODE_WHAT][i];
            int v = varOf(words[word]);
            int name = placeIn(names, nameCount, words[word]);
            if (v == NONE && name == NONE) {
                breakRule(word);
            }
            text.code[CODE_OP][i] = v != NONE ? OP_VAR : OP_NAME;
            text.code[CODE_WHAT][i] = v != NONE ? v : name;
        }

        private void findCalled() {
            for (int i = 0; i < text.codes; i++) {
                int op = text.code[CODE_OP][i];
                if (op == OP_CALL || op == OP_START) {
                    int word = text.code[CODE_WHAT][i];
                    int m = placeIn(memberWords, text.members, words[word]);
                    if (m == NONE || text.member[MEMBER_PARAMETERS][m] != text.code[CODE_ARGUMENTS][i]) {
                        breakRule(word);
                    }
                    text.code[CODE_WHAT][i] = m;
                }
            }
        }
    }

    /** What is worked out of the graphs: WEIGHTS and PROBES of the ways, NUMBERS of the PATHS. */
    private static final class Chart {
        private static final int ORDER_BITS = 12;
        private static final int ORDER_MASK = (1 << ORDER_BITS) - 1;
        private static final int MOST_POWER = 9;

        final int[] weight = new int[WAY_ROOM];
        final boolean[] probe = new boolean[WAY_ROOM];
        /** How many PATHS from the way's node come ahead of those that go on by the way. */
        final int[] ahead = new int[WAY_ROOM];
        /** The NUMBER of the first PATH from a node. */
        final int[] base = new int[NODE_ROOM];
        final int[] total = new int[MOST_MEMBERS];
        private final int[] paths = new int[NODE_ROOM];
        private final int[] root = new int[NODE_ROOM];
        private final long[] order = new long[WAY_ROOM];

        void draw(Text text) {
            for (int m = 0; m < text.members; m++) {
                countPaths(text, m);
            }
        }

        private void countPaths(Text text, int m) {
            int first = text.member[MEMBER_NODE][m];
            for (int n = text.member[MEMBER_NODE][m + 1] - 1; n >= first; n--) {
                paths[n] = pathsFrom(text, n);
            }
            base[first] = 0;
            int sum = paths[first];
            for (int l = text.member[MEMBER_LOOP][m]; l < text.member[MEMBER_LOOP][m + 1]; l++) {
                int n = text.loop[LOOP_NODE][l];
                base[n] = sum;
                sum = atMost(sum + paths[n]);
            }
            total[m] = sum;
        }

        /** Ways that end no PATH go to nodes behind, which have been counted when this one is. */
        private int pathsFrom(Text text, int n) {
            int sum = 0;
            for (int w = text.node[NODE_WAY][n]; w < text.node[NODE_WAY][n + 1]; w++) {
                ahead[w] = sum;
                sum = atMost(sum + (text.isLastOfPath(w) ? 1 : paths[text.way[WAY_TO][w]]));
            }
            return sum;
        }

        private static int atMost(int paths) {
            return Math.min(paths, MOST_PATHS + 1);
        }

        boolean numbered(int m) {
            return total[m] <= MOST_PATHS;
        }

        boolean hasNumber(int m, int number) {
            return numbered(m) && number >= 0 && number < total[m];
        }

        /** The i-th way of a PATH, or, of i NONE, how many ways it has. */
        int wayOf(Text text, int m, int number, int i) {
            int n = firstNodeOf(text, m, number);
            int rest = number - base[n];
            for (int k = 0; k < NODE_ROOM; k++) {
                int w = wayFor(text, n, rest);
                if (k == i) {
                    return w - text.member[MEMBER_WAY][m];
                }
                if (text.isLastOfPath(w)) {
                    return i == NONE ? k + 1 : NONE;
                }
                rest -= ahead[w];
                n = text.way[WAY_TO][w];
            }
            return NONE;
        }

        private int firstNodeOf(Text text, int m, int number) {
            int n = text.member[MEMBER_NODE][m];
            for (int l = text.member[MEMBER_LOOP][m]; l < text.member[MEMBER_LOOP][m + 1]; l++) {
                if (base[text.loop[LOOP_NODE][l]] <= number) {
                    n = text.loop[LOOP_NODE][l];
                }
            }
            return n;
        }

        private int wayFor(Text text, int n, int rest) {
            int way = text.node[NODE_WAY][n];
            for (int w = way + 1; w < text.node[NODE_WAY][n + 1]; w++) {
                if (ahead[w] <= rest) {
                    way = w;
                }
            }
            return way;
        }

        void weighByDepth(Text text) {
            int[] depth = text.node[NODE_DEPTH];
            for (int w = 0; w < text.ways; w++) {
                int power = Math.min(depth[text.way[WAY_FROM][w]], depth[text.way[WAY_TO][w]]);
                weight[w] = text.way[WAY_SORT][w] == BY_FAILURE ? 0 : tenTo(Math.min(power, MOST_POWER));
            }
            setProbes(text);
        }

        private static int tenTo(int power) {
            int result = 1;
            for (int i = 0; i < power; i++) {
                result *= 10;
            }
            return result;
        }

        void weighByCounts(Text text, int[] counts) {
            System.arraycopy(counts, 0, weight, 0, text.ways);
            setProbes(text);
        }

        private void setProbes(Text text) {
            for (int n = 0; n < text.nodes; n++) {
                root[n] = n;
            }
            for (int m = 0; m < text.members; m++) {
                int entry = text.member[MEMBER_NODE][m];
                join(entry + END, entry);
                join(entry + FAILED, entry);
                takeWays(text, m);
            }
        }

        private void takeWays(Text text, int m) {
            int first = text.member[MEMBER_WAY][m];
            int count = text.sizeOf(MEMBER_WAY, m);
            for (int i = 0; i < count; i++) {
                order[i] = ((long) weight[first + i] << ORDER_BITS) + (ORDER_MASK - i);
            }
            sortDown(order, count);
            for (int i = 0; i < count; i++) {
                int w = first + ORDER_MASK - (int) (order[i] & ORDER_MASK);
                probe[w] = !join(text.way[WAY_FROM][w], text.way[WAY_TO][w]);
            }
        }

        private boolean join(int a, int b) {
            int one = rootOf(a);
            int other = rootOf(b);
            root[one] = other;
            return one != other;
        }

        private int rootOf(int n) {
            int above = n;
            for (int i = 0; i < NODE_ROOM && root[above] != above; i++) {
                above = root[above];
            }
            return above;
        }

        int probesOf(Text text, int m) {
            int sum = 0;
            for (int w = text.member[MEMBER_WAY][m]; w < text.member[MEMBER_WAY][m + 1]; w++) {
                sum += probe[w] ? 1 : 0;
            }
            return sum;
        }
    }

    /**
     * The FORMULAS. A formula is a row of numbers, one for each term that there can be. UPs (and TURNS) never have a
     * power above 1, so they are five numbers: that of the term without x, then those of x1 .. x4.
     */
    private static final class Formulas {
        private static final int TERMS = 70;
        private static final int DEGREE = 4;
        private static final int PARTS = 5;
        private static final int NEGATED = 5;
        private static final long TOP = 1000000000000L;
        private static final long WORST = 1000000000000000L;
        private static final int SUM_ROOM = 30;
        private static final int NO_UP = 0;
        private static final int UP = 1;
        private static final int UP_NUMBER = 2;
        private static final int UP_NEGATIVE = 3;

        private final int[][] powers = new int[MOST_PARAMETERS][TERMS];
        /** The term that a term is when it is multiplied by a part of an UP; NONE above the greatest degree. */
        private final int[][] raised = new int[PARTS][TERMS];
        private final long[][] formula = new long[MOST_MEMBERS][TERMS];
        private final int[] barredAt = new int[MOST_MEMBERS];
        private final boolean[] known = new boolean[MOST_MEMBERS];
        private final long[][] sums = new long[SUM_ROOM][TERMS];
        private final boolean[] broken = new boolean[SUM_ROOM];
        private int sumCount = 0;
        private final long[][] up = new long[OPERAND_ROOM][PARTS + 1];
        private final int[] sort = new int[OPERAND_ROOM];
        private int top = 0;
        private final long[][] nameUp = new long[MOST_NAMES][PARTS];
        private final boolean[] nameHasUp = new boolean[MOST_NAMES];
        private final long[] turns = new long[PARTS];
        private final long[] whole = new long[TERMS];
        private final long[] product = new long[TERMS];
        private final long[] factor = new long[TERMS];
        private Text text;
        private boolean workedOut = false;
        private int current = 0;

        Formulas(Text first) {
            text = first;
            int t = 0;
            for (int i = 0; i < 625 && t < TERMS; i++) {
                int sum = i / 125 + i / 25 % 5 + i / 5 % 5 + i % 5;
                if (sum <= DEGREE) {
                    powers[0][t] = i / 125;
                    powers[1][t] = i / 25 % 5;
                    powers[2][t] = i / 5 % 5;
                    powers[3][t] = i % 5;
                    t++;
                }
            }
            for (int part = 0; part < PARTS; part++) {
                for (int i = 0; i < TERMS; i++) {
                    raised[part][i] = part == 0 ? i : raisedTerm(i, part - 1);
                }
            }
        }

        private int raisedTerm(int term, int x) {
            for (int t = term + 1; t < TERMS; t++) {
                boolean fits = true;
                for (int i = 0; i < MOST_PARAMETERS; i++) {
                    fits = fits && powers[i][t] == powers[i][term] + (i == x ? 1 : 0);
                }
                if (fits) {
                    return t;
                }
            }
            return NONE;
        }

        void forget() {
            workedOut = false;
        }

        /** Members come when all that they call have come; those left then call in a ring, or lean on one. */
        void workOut(Text of) {
            if (workedOut) {
                return;
            }
            workedOut = true;
            text = of;
            for (int m = 0; m < MOST_MEMBERS; m++) {
                known[m] = false;
            }
            for (int round = 0; round <= MOST_MEMBERS; round++) {
                for (int m = 0; m < text.members; m++) {
                    if (!known[m] && (round == MOST_MEMBERS || callsKnown(m))) {
                        current = m;
                        barredAt[m] = NONE;
                        findNameUps();
                        workOutMember(m);
                        known[m] = true;
                    }
                }
            }
        }

        private boolean callsKnown(int m) {
            for (int i = text.member[MEMBER_CODE][m]; i < text.member[MEMBER_CODE][m + 1]; i++) {
                if (text.code[CODE_OP][i] == OP_CALL && !known[text.code[CODE_WHAT][i]]) {
                    return false;
                }
            }
            return true;
        }

        private void workOutMember(int m) {
            sumCount = 0;
            openSum();
            for (int i = text.member[MEMBER_PLAN][m]; i < text.member[MEMBER_PLAN][m + 1]; i++) {
                int op = text.plan[PLAN_OP][i];
                int n = text.plan[PLAN_NODE][i];
                if (op == PLAN_OPEN) {
                    openSum();
                } else {
                    openWhole(text.node[NODE_KIND][n]);
                    boolean fine = climb(n, true);
                    fine = addBodies(op, n) && fine;
                    addToSum(n, fine);
                }
            }
            System.arraycopy(sums[0], 0, formula[m], 0, TERMS);
        }

        private void bar(int n) {
            if (barredAt[current] == NONE || n < barredAt[current]) {
                barredAt[current] = n;
            }
        }

        private void openSum() {
            if (sumCount < SUM_ROOM) {
                Arrays.fill(sums[sumCount], 0);
                broken[sumCount] = false;
                sumCount++;
            }
        }

        /** Takes the latest body off: whether nothing BARS in it. Its row stays as it is till the next one opens. */
        private boolean closeSum() {
            if (sumCount > 1) {
                sumCount--;
            }
            return !broken[sumCount];
        }

        /** What a statement comes to without calls and bodies. */
        private void openWhole(int kind) {
            Arrays.fill(whole, 0);
            whole[0] = kind == JOIN || kind == LOCK ? 2 : 1;
        }

        private void addToSum(int n, boolean fine) {
            int last = sumCount - 1;
            broken[last] = !fine || broken[last] || !add(sums[last], whole, n);
        }

        /** Adds what a statement's bodies come to: whether nothing BARS in them or by them. */
        private boolean addBodies(int op, int n) {
            switch (op) {
                case PLAN_IF:
                    return addGreaterBody(n);
                case PLAN_WHILE:
                    closeSum();
                    bar(n);
                    return false;
                case PLAN_FOR:
                    return addTurningBody(n);
                case PLAN_TRY:
                    return addBothBodies(n);
                case PLAN_LOCK:
                    return closeSum() && add(whole, sums[sumCount], n) && addOne(whole, n);
                default:
                    return true;
            }
        }

        private boolean addGreaterBody(int n) {
            boolean fine = closeSum();
            long[] other = sums[sumCount];
            fine = closeSum() && fine;
            long[] body = sums[sumCount];
            for (int t = 0; t < TERMS; t++) {
                body[t] = Math.max(body[t], other[t]);
            }
            return fine && add(whole, body, n);
        }

        private boolean addBothBodies(int n) {
            boolean fine = closeSum();
            long[] second = sums[sumCount];
            fine = closeSum() && fine;
            long[] first = sums[sumCount];
            return fine && add(whole, first, n) && add(whole, second, n);
        }

        private boolean addTurningBody(int n) {
            boolean fine = closeSum();
            if (!findTurns()) {
                bar(n);
                return false;
            }
            return fine && addOne(whole, n) && addTurns(sums[sumCount], n);
        }

        /** Adds 1; what passes the greatest number BARS. */
        private boolean addOne(long[] row, int n) {
            row[0]++;
            if (row[0] > TOP) {
                bar(n);
                return false;
            }
            return true;
        }

        private boolean add(long[] row, long[] other, int n) {
            boolean fine = true;
            for (int t = 0; t < TERMS; t++) {
                row[t] += other[t];
                fine = fine && row[t] <= TOP;
            }
            if (!fine) {
                bar(n);
            }
            return fine;
        }

        private boolean addTurns(long[] body, int n) {
            if (isZero(turns)) {
                return true;
            }
            if (!addOne(body, n)) {
                return false;
            }
            System.arraycopy(body, 0, product, 0, TERMS);
            if (!multiply(turns)) {
                bar(n);
                return false;
            }
            return add(whole, product, n);
        }

        private static boolean isZero(long[] parts) {
            for (int i = 0; i < PARTS; i++) {
                if (parts[i] != 0) {
                    return false;
                }
            }
            return true;
        }

        /** The product is multiplied by an UP: whether it stays within degree and numbers. */
        private boolean multiply(long[] parts) {
            for (int t = 0; t < TERMS; t++) {
                factor[t] = product[t];
                product[t] = 0;
            }
            for (int i = 0; i < PARTS * TERMS; i++) {
                long part = parts[i / TERMS];
                long number = factor[i % TERMS];
                if (part > 0 && number > 0) {
                    int to = raised[i / TERMS][i % TERMS];
                    if (to == NONE || number > TOP / part) {
                        return false;
                    }
                    product[to] += number * part;
                    if (product[to] > TOP) {
                        return false;
                    }
                }
            }
            return true;
        }

        private boolean findTurns() {
            if (top < 2 || sort[1] == NO_UP || (sort[0] != UP_NUMBER && sort[0] != UP_NEGATIVE)) {
                return false;
            }
            System.arraycopy(up[1], 0, turns, 0, PARTS);
            if (sort[0] == UP_NEGATIVE) {
                turns[0] += up[0][NEGATED] + 1;
            } else if (up[0][0] == 0) {
                turns[0]++;
            }
            return turns[0] <= TOP;
        }

        /** A name gets its UP once all that it asks for has one, so that what leans on itself never does. */
        private void findNameUps() {
            for (int name = 0; name < MOST_NAMES; name++) {
                nameHasUp[name] = false;
            }
            boolean more = true;
            for (int round = 0; round <= MOST_NAMES && more; round++) {
                more = false;
                for (int name = 0; name < text.member[MEMBER_NAMES][current] && name < MOST_NAMES; name++) {
                    if (!nameHasUp[name] && findNameUp(name)) {
                        nameHasUp[name] = true;
                        more = true;
                    }
                }
            }
        }

        private boolean findNameUp(int name) {
            int setter = text.setter[current * MOST_NAMES + name];
            if (name < text.member[MEMBER_PARAMETERS][current]) {
                Arrays.fill(nameUp[name], 0);
                nameUp[name][name + 1] = 1;
                return setter == NEVER_SET;
            }
            if (setter < 0) {
                return false;
            }
            climb(setter, false);
            if (top < 2 || sort[1] == NO_UP) {
                return false;
            }
            System.arraycopy(up[1], 0, nameUp[name], 0, PARTS);
            return true;
        }

        /** Works out the UPs of a node's expressions; with counting, calls come to the whole: whether none BARS. */
        private boolean climb(int n, boolean counting) {
            top = 0;
            boolean fine = true;
            for (int i = text.node[NODE_CODE][n]; i < text.codes && text.code[CODE_OP][i] != OP_END; i++) {
                int op = text.code[CODE_OP][i];
                int what = text.code[CODE_WHAT][i];
                if (op == OP_CALL || op == OP_START) {
                    int first = Math.max(0, top - text.code[CODE_ARGUMENTS][i]);
                    if (op == OP_CALL && counting && !addCall(what, first)) {
                        bar(n);
                        fine = false;
                    }
                    top = first;
                    pushUp(NO_UP, 0);
                } else if (op <= OP_NAME) {
                    climbLeaf(op, what);
                } else if (op >= OP_NEW && op <= OP_NEGATIVE) {
                    climbAhead(op);
                } else {
                    climbBoth(op);
                }
            }
            return fine;
        }

        private void pushUp(int of, long number) {
            if (top < OPERAND_ROOM) {
                Arrays.fill(up[top], 0);
                up[top][0] = number;
                sort[top] = of;
                top++;
            }
        }

        private void climbLeaf(int op, int what) {
            if (op == OP_NUMBER) {
                pushUp(UP_NUMBER, what);
            } else if (op == OP_NAME && what >= 0 && what < MOST_NAMES && nameHasUp[what]) {
                pushUp(UP, 0);
                System.arraycopy(nameUp[what], 0, up[top - 1], 0, PARTS);
            } else {
                pushUp(NO_UP, 0);
            }
        }

        private void climbAhead(int op) {
            top = Math.max(0, top - 1);
            if (op == OP_LEN) {
                pushUp(UP, Store.MOST_SIZE);
            } else if (op == OP_NOT) {
                pushUp(UP, 1);
            } else if (op == OP_NEGATIVE && sort[top] == UP_NUMBER) {
                long number = up[top][0];
                pushUp(UP_NEGATIVE, 0);
                up[top - 1][NEGATED] = number;
            } else {
                pushUp(NO_UP, 0);
            }
        }

        private void climbBoth(int op) {
            if (top < 2) {
                return;
            }
            top -= 2;
            int left = top;
            int right = top + 1;
            boolean byNumber = sort[right] == UP_NUMBER;
            long number = up[right][0];
            switch (op) {
                case '+':
                    sort[left] = sort[left] != NO_UP && sort[right] != NO_UP && addUp(left, right) ? UP : NO_UP;
                    top++;
                    break;
                case '-':
                    sort[left] = byNumber && sort[left] != NO_UP ? UP : NO_UP;
                    top++;
                    break;
                case '*':
                    sort[left] = multiplyUps(left, right) ? UP : NO_UP;
                    top++;
                    break;
                case '/':
                    sort[left] = byNumber && number != 0 && sort[left] != NO_UP ? UP : NO_UP;
                    top++;
                    break;
                case '%':
                    pushUp(byNumber && number != 0 ? UP : NO_UP, number - 1);
                    break;
                case OP_ELEMENT:
                    pushUp(NO_UP, 0);
                    break;
                default:
                    pushUp(UP, 1);
            }
        }

        private boolean addUp(int left, int right) {
            boolean fine = true;
            for (int i = 0; i < PARTS; i++) {
                up[left][i] += up[right][i];
                fine = fine && up[left][i] <= TOP;
            }
            return fine;
        }

        private boolean multiplyUps(int left, int right) {
            if (sort[left] == NO_UP || sort[right] == NO_UP) {
                return false;
            }
            if (sort[right] == UP_NUMBER) {
                return timesUp(left, left, up[right][0]);
            }
            return sort[left] == UP_NUMBER && timesUp(left, right, up[left][0]);
        }

        private boolean timesUp(int into, int of, long number) {
            for (int i = 0; i < PARTS; i++) {
                long part = up[of][i];
                if (number != 0 && part > TOP / number) {
                    return false;
                }
                up[into][i] = part * number;
            }
            return true;
        }

        /** Adds the FORMULA of a member with the UPs from first on for its x: whether that can be. */
        private boolean addCall(int m, int first) {
            if (!known[m] || barredAt[m] != NONE || lacksUp(m, first)) {
                return false;
            }
            for (int t = 0; t < TERMS; t++) {
                if (formula[m][t] != 0 && !isNothing(t, first) && !addTerm(m, t, first)) {
                    return false;
                }
            }
            return true;
        }

        private boolean lacksUp(int m, int first) {
            for (int x = 0; x < text.member[MEMBER_PARAMETERS][m]; x++) {
                for (int t = 0; t < TERMS && sort[first + x] == NO_UP; t++) {
                    if (formula[m][t] != 0 && powers[x][t] > 0) {
                        return true;
                    }
                }
            }
            return false;
        }

        private boolean isNothing(int t, int first) {
            for (int x = 0; x < MOST_PARAMETERS; x++) {
                if (powers[x][t] > 0 && isZero(up[first + x])) {
                    return true;
                }
            }
            return false;
        }

        private boolean addTerm(int m, int t, int first) {
            Arrays.fill(product, 0);
            product[0] = formula[m][t];
            for (int x = 0; x < MOST_PARAMETERS; x++) {
                for (int i = 0; i < powers[x][t]; i++) {
                    if (!multiply(up[first + x])) {
                        return false;
                    }
                }
            }
            boolean fine = true;
            for (int i = 0; i < TERMS; i++) {
                whole[i] += product[i];
                fine = fine && whole[i] <= TOP;
            }
            return fine;
        }

        private int termsOf(int m) {
            int sum = 0;
            for (int t = 0; t < TERMS && barredAt[m] == NONE; t++) {
                sum += formula[m][t] != 0 ? 1 : 0;
            }
            return sum;
        }

        long toldOfAll(int m, int what) {
            switch (what) {
                case 0:
                    return barredAt[m] == NONE ? 1 : 0;
                case 1:
                    return barredAt[m] == NONE ? NONE : text.node[NODE_PLACE][barredAt[m]];
                case 2:
                    return termsOf(m);
                default:
                    return NONE;
            }
        }

        long toldOfTerm(int m, int i, int what) {
            if (i < 0 || what < 0 || what > MOST_PARAMETERS || barredAt[m] != NONE) {
                return NONE;
            }
            int left = i;
            for (int t = 0; t < TERMS; t++) {
                if (formula[m][t] != 0) {
                    if (left == 0) {
                        return what == 0 ? formula[m][t] : powers[what - 1][t];
                    }
                    left--;
                }
            }
            return NONE;
        }

        long worstOf(int m, int a, int b, int c, int d) {
            if (barredAt[m] != NONE) {
                return NONE;
            }
            long sum = 0;
            for (int t = 0; t < TERMS; t++) {
                long term = formula[m][t];
                term = timesPower(term, a, powers[0][t]);
                term = timesPower(term, b, powers[1][t]);
                term = timesPower(term, c, powers[2][t]);
                term = timesPower(term, d, powers[3][t]);
                sum = Math.min(WORST, sum + term);
            }
            return sum;
        }

        private static long timesPower(long term, int x, int power) {
            long result = term;
            for (int i = 0; i < power; i++) {
                if (x <= 0) {
                    return 0;
                }
                result = result > WORST / x ? WORST : result * x;
            }
            return result;
        }
    }

    /** A run: the threads (here: strands), their turns, and each step of them. */
    private static final class Run {
        private static final int COMPUTE = 0;
        private static final int CALL_NOW = 1;
        private static final int START_NOW = 2;
        private static final int FINISH = 3;
        private static final int GO = 4;
        private static final int FAIL = 5;
        private static final int DONE = 6;
        private static final long NOT_SEEDED = -1;
        private static final long CHANCE_FACTOR = 1103515245L;
        private static final long CHANCE_MORE = 12345L;
        private static final long CHANCE_ROUND = 2147483648L;
        private static final long CHANCE_CUT = 65536L;

        final Ledger ledger;
        final Costs costs = new Costs();
        final Store store = new Store();
        private final Strand[] strands = new Strand[MOST_STRANDS];
        private final Lock[] locks = new Lock[MOST_LOCKS];
        private final Keeper[] keepers;
        private Text text;
        int condition = NO_RUN;
        int strandCount = 0;
        private int steps = 0;
        private int turn = 0;
        private long chance = NOT_SEEDED;
        private int every = 0;
        private int activations = 0;
        // The step under way: whose it is, what is to be done next, and what that needs.
        private Strand strand;
        private int doing = DONE;
        private int code = 0;
        private int way = 0;
        private int failure = 0;
        private long carried = 0;

        Run(Keeper[] all, Text first, Chart chart) {
            keepers = all;
            text = first;
            ledger = new Ledger(first, chart);
            for (int i = 0; i < MOST_STRANDS; i++) {
                strands[i] = new Strand();
            }
            strand = strands[0];
            for (int i = 0; i < MOST_LOCKS; i++) {
                locks[i] = new Lock();
            }
        }

        boolean isThere() {
            return condition != NO_RUN;
        }

        void leave() {
            condition = NO_RUN;
        }

        void prepare(Text of, int[] prices, boolean fold) {
            text = of;
            ledger.clear(of);
            costs.clear(prices, fold);
            store.clear();
            for (int i = 0; i < MOST_LOCKS; i++) {
                locks[i].clear();
            }
            strandCount = 0;
            steps = 0;
            turn = 0;
            activations = 0;
        }

        void open(int m, int[] arguments, int seed, int lookEvery) {
            chance = seed == 0 ? NOT_SEEDED : seed;
            every = lookEvery;
            strand = strands[0];
            strand.clear();
            for (int i = 0; i < text.member[MEMBER_PARAMETERS][m] && i < MOST_PARAMETERS; i++) {
                strand.push(arguments[i]);
            }
            startStrand(m);
            settle();
        }

        void step() {
            openStep();
            for (int i = 0; i < WORK_ROOM && doing != DONE; i++) {
                switch (doing) {
                    case COMPUTE:
                        compute();
                        break;
                    case CALL_NOW:
                        callMember(text.code[CODE_WHAT][code - 1]);
                        break;
                    case START_NOW:
                        startStrand(text.code[CODE_WHAT][code - 1]);
                        break;
                    case FINISH:
                        finish();
                        break;
                    case GO:
                        go();
                        break;
                    default:
                        way = text.failureWay(strand.nodeNow());
                        doing = GO;
                }
            }
            settle();
            if (every > 0 && steps % every == 0) {
                lookAround();
            }
        }

        private void openStep() {
            steps++;
            strand = strands[turn];
            strand.steps++;
            int n = strand.nodeNow();
            int price = costs.openStep(turn, text.node[NODE_KIND][n], strand.treeNow());
            ledger.memberCosts[strand.memberNow()] += price;
            code = text.node[NODE_CODE][n];
            doing = COMPUTE;
            if (strand.second) {
                goOnBehindWait(n);
            }
        }

        /** Whether the run goes on, and whose turn it is. */
        private void settle() {
            int able = 0;
            int ended = 0;
            for (int i = 0; i < strandCount; i++) {
                able += strands[i].state == CAN_GO ? 1 : 0;
                ended += strands[i].state >= HAS_ENDED ? 1 : 0;
            }
            if (ended == strandCount) {
                condition = ENDED;
            } else if (able == 0) {
                condition = STUCK;
            } else {
                condition = steps < MOST_STEPS ? GOES : SPENT;
                if (steps > 0) {
                    chooseTurn(able);
                }
            }
        }

        private void chooseTurn(int able) {
            if (chance == NOT_SEEDED) {
                if (strands[turn].state != CAN_GO) {
                    turn = ableStrand(0);
                }
                return;
            }
            chance = (chance * CHANCE_FACTOR + CHANCE_MORE) % CHANCE_ROUND;
            if (able > 0) {
                turn = ableStrand((int) (chance / CHANCE_CUT % able));
            }
        }

        private int ableStrand(int number) {
            int left = number;
            for (int i = 0; i < strandCount; i++) {
                if (strands[i].state == CAN_GO) {
                    if (left == 0) {
                        return i;
                    }
                    left--;
                }
            }
            return 0;
        }

        private void compute() {
            for (int i = 0; i < CODE_ROOM && doing == COMPUTE; i++) {
                int op = text.code[CODE_OP][code];
                int what = text.code[CODE_WHAT][code];
                code++;
                operate(op, what);
            }
        }

        private void operate(int op, int what) {
            switch (op) {
                case OP_END:
                    doing = FINISH;
                    break;
                case OP_NUMBER:
                    strand.push(what);
                    break;
                case OP_NIL:
                    strand.push(NIL_VALUE);
                    break;
                case OP_VAR:
                    strand.push(store.vars[what]);
                    break;
                case OP_NAME:
                    strand.push(strand.nameAt(what));
                    break;
                case OP_ELEMENT:
                    readElement();
                    break;
                case OP_CALL:
                    doing = CALL_NOW;
                    break;
                case OP_START:
                    doing = START_NOW;
                    break;
                case OP_NEW:
                    makeArray();
                    break;
                case OP_LEN:
                    tellLength();
                    break;
                case OP_NOT:
                    strand.push(isTrue(strand.pop()) ? 0 : 1);
                    break;
                case OP_NEGATIVE:
                    negate();
                    break;
                default:
                    workOutBoth(op);
            }
        }

        private void fail(int kind) {
            ledger.failures[FAILURES_MADE][kind]++;
            failure = kind;
            carried = kind;
            doing = FAIL;
        }

        private void negate() {
            long value = strand.pop();
            if (isNumber(value)) {
                strand.push(-value);
            } else {
                fail(WRONG_SORT);
            }
        }

        private void workOutBoth(int op) {
            long right = strand.pop();
            long left = strand.pop();
            switch (op) {
                case '&':
                    strand.push(isTrue(left) && isTrue(right) ? 1 : 0);
                    break;
                case '|':
                    strand.push(isTrue(left) || isTrue(right) ? 1 : 0);
                    break;
                case '=':
                    strand.push(left == right ? 1 : 0);
                    break;
                case '#':
                    strand.push(left != right ? 1 : 0);
                    break;
                default:
                    if (isNumber(left) && isNumber(right)) {
                        workOutNumbers(op, left, right);
                    } else {
                        fail(WRONG_SORT);
                    }
            }
        }

        private void workOutNumbers(int op, long left, long right) {
            if ((op == '/' || op == '%') && right == 0) {
                fail(BY_ZERO);
                return;
            }
            long result = numberOf(op, left, right);
            if (isNumber(result)) {
                strand.push(result);
            } else {
                fail(OUT_OF_BOUNDS);
            }
        }

        private static long numberOf(int op, long left, long right) {
            switch (op) {
                case '+':
                    return left + right;
                case '-':
                    return left - right;
                case '*':
                    return left * right;
                case '/':
                    return right == 0 ? 0 : left / right;
                case '%':
                    return right == 0 ? 0 : left % right;
                case '<':
                    return left < right ? 1 : 0;
                default:
                    return left > right ? 1 : 0;
            }
        }

        /** What hinders the use of an array's element: a failure, or 0. */
        private int hindrance(long array, long index) {
            if (array == NIL_VALUE) {
                return NIL_FOR_ARRAY;
            }
            if (!isArray(array) || !isNumber(index)) {
                return WRONG_SORT;
            }
            return store.hasElement(array, index) ? 0 : NO_ELEMENT;
        }

        private void readElement() {
            long index = strand.pop();
            long array = strand.pop();
            int failed = hindrance(array, index);
            if (failed != 0) {
                fail(failed);
            } else {
                strand.push(store.readElement(array, index, steps));
            }
        }

        private void storeElement() {
            long value = strand.pop();
            long index = strand.pop();
            long array = strand.pop();
            int failed = hindrance(array, index);
            if (failed != 0) {
                fail(failed);
            } else {
                store.putElement(array, index, value, steps);
            }
        }

        private void tellLength() {
            long array = strand.pop();
            if (isArray(array)) {
                strand.push(store.sizeOf(array, steps));
            } else {
                fail(array == NIL_VALUE ? NIL_FOR_ARRAY : WRONG_SORT);
            }
        }

        private void makeArray() {
            long size = strand.pop();
            if (!isNumber(size)) {
                fail(WRONG_SORT);
            } else if (size < 0 || size > Store.MOST_SIZE) {
                fail(WRONG_SIZE);
            } else if (!store.hasRoom((int) size)) {
                fail(NO_ROOM);
            } else {
                int m = strand.memberNow();
                strand.push(store.makeArray((int) size, m, strand.nodeNow() - text.member[MEMBER_NODE][m], steps));
                ledger.memberCosts[m] += costs.addElements((int) size, strand.treeNow());
            }
        }

        private void callMember(int m) {
            if (strand.depth >= MOST_DEPTH || activations >= MOST_ACTIVATIONS) {
                fail(TOO_MANY);
                return;
            }
            strand.frame[FRAME_CODE][strand.depth - 1] = code;
            if (activate(strand, m, costs.treeNodeFor(strand.treeNow(), m))) {
                strand.depth--;
                strand.push(0);
                doing = COMPUTE;
            } else {
                doing = DONE;
            }
        }

        /** A new thread, its arguments being on the row of the one that starts it. */
        private void startStrand(int m) {
            if (strandCount >= MOST_STRANDS || activations >= MOST_ACTIVATIONS) {
                fail(TOO_MANY);
                return;
            }
            int number = strandCount;
            strandCount++;
            Strand started = strands[number];
            if (number > 0) {
                started.clear();
            }
            costs.startStrand(number, steps);
            if (activate(started, m, costs.treeNodeFor(Costs.TREE_HOUSE, m))) {
                started.depth--;
                started.state = HAS_ENDED;
            }
            if (number > 0) {
                strand.push(number);
                doing = COMPUTE;
            }
        }

        /** A new activation, whose arguments are taken off the row: whether it has ended at once. */
        private boolean activate(Strand called, int m, int treeNode) {
            int parameters = text.member[MEMBER_PARAMETERS][m];
            called.openFrame(m, treeNode);
            for (int i = parameters - 1; i >= 0; i--) {
                called.setName(i, strand.pop());
            }
            called.frame[FRAME_BASE][called.depth - 1] = called.top;
            activations++;
            ledger.memberCalls[m]++;
            int entry = text.member[MEMBER_WAY][m];
            ledger.goWay(entry, called);
            int to = text.way[WAY_TO][entry];
            called.frame[FRAME_NODE][called.depth - 1] = to;
            return text.node[NODE_KIND][to] == END;
        }

        /** All of a node is worked out: what it does, and which way it goes. */
        private void finish() {
            int n = strand.nodeNow();
            carried = 0;
            way = text.node[NODE_WAY][n];
            doing = GO;
            switch (text.node[NODE_KIND][n]) {
                case PUT:
                    putValue(n);
                    break;
                case STORE:
                    storeElement();
                    break;
                case CALL:
                    strand.pop();
                    break;
                case TEST:
                    way += isTrue(strand.pop()) ? 0 : 1;
                    break;
                case BEGIN:
                    beginTurns(n);
                    break;
                case TURN:
                    way += takeTurn(n) ? 0 : 1;
                    break;
                case RETURN:
                    carried = strand.pop();
                    break;
                case THROW:
                    fail(THROWN);
                    carried = strand.pop();
                    break;
                case LOCK:
                    takeLock();
                    break;
                case JOIN:
                    joinStrand();
                    break;
                case PRINT:
                    printNumber();
                    break;
                default:
                    break;
            }
        }

        private void putValue(int n) {
            long value = strand.pop();
            int slot = text.node[NODE_SLOT][n];
            if (slot >= VAR_SLOT) {
                store.vars[slot - VAR_SLOT] = value;
            } else {
                strand.setName(slot, value);
            }
            for (int i = 0; i < MOST_KEEPERS && isNumber(value); i++) {
                if (keepers[i].node == n) {
                    keepers[i].see(value);
                }
            }
        }

        private void beginTurns(int n) {
            long last = strand.pop();
            long first = strand.pop();
            if (isNumber(first) && isNumber(last)) {
                int nest = strand.nest(text.node[NODE_DEPTH][n]);
                strand.next[nest] = first;
                strand.last[nest] = last;
            } else {
                fail(WRONG_SORT);
            }
        }

        private boolean takeTurn(int n) {
            int nest = strand.nest(text.node[NODE_DEPTH][n] - 1);
            if (strand.next[nest] > strand.last[nest]) {
                return false;
            }
            strand.setName(text.node[NODE_SLOT][n], strand.next[nest]);
            strand.next[nest]++;
            return true;
        }

        private void printNumber() {
            long value = strand.pop();
            if (!isNumber(value)) {
                fail(WRONG_SORT);
            } else if (!store.printNumber((int) value)) {
                fail(NO_ROOM);
            }
        }

        private void takeLock() {
            long value = strand.pop();
            if (!isNumber(value)) {
                fail(WRONG_SORT);
            } else if (value < 0 || value >= MOST_LOCKS) {
                fail(WRONG_TARGET);
            } else {
                int number = (int) value;
                if (locks[number].takeOrLineUp(turn, steps)) {
                    enterLock(number);
                } else {
                    strand.await(WAITS_FOR_LOCK, number, steps);
                    doing = DONE;
                }
            }
        }

        private void enterLock(int number) {
            strand.pushLock(number);
            costs.behindStep(locks[number].letGoAt);
        }

        private void joinStrand() {
            long value = strand.pop();
            if (!isNumber(value)) {
                fail(WRONG_SORT);
            } else if (value < 0 || value >= strandCount || value == turn) {
                fail(WRONG_TARGET);
            } else if (strands[(int) value].state >= HAS_ENDED) {
                costs.behindStrand((int) value);
            } else {
                strand.await(WAITS_FOR_STRAND, (int) value, steps);
                doing = DONE;
            }
        }

        /** The second step of a LOCK or JOIN that waited. */
        private void goOnBehindWait(int n) {
            strand.second = false;
            if (text.node[NODE_KIND][n] == LOCK) {
                enterLock(strand.waitsFor);
            } else {
                costs.behindStrand(strand.waitsFor);
            }
            carried = 0;
            way = text.node[NODE_WAY][n];
            doing = GO;
        }

        private void go() {
            int to = text.way[WAY_TO][way];
            leaveLocks(text.node[NODE_LOCKS][to]);
            ledger.goWay(way, strand);
            strand.arrive(to);
            int kind = text.node[NODE_KIND][to];
            if (kind == END) {
                endActivation();
            } else if (kind == FAILED) {
                breakActivation();
            } else {
                if (kind == CATCH) {
                    strand.setName(text.node[NODE_SLOT][to], carried);
                    ledger.failures[FAILURES_CAUGHT][failure]++;
                }
                doing = DONE;
            }
        }

        private void leaveLocks(int keep) {
            for (int i = strand.locksNow(); i > keep; i--) {
                int number = strand.popLock();
                int follower = locks[number].letGo(steps);
                if (follower != NONE) {
                    locks[number].waited += steps - strands[follower].waitSince;
                    strands[follower].wake(steps);
                }
            }
        }

        private void endActivation() {
            strand.depth--;
            if (strand.depth == 0) {
                endStrand(HAS_ENDED);
            } else {
                code = strand.frame[FRAME_CODE][strand.depth - 1];
                strand.push(carried);
                doing = COMPUTE;
            }
        }

        private void breakActivation() {
            ledger.failures[FAILURES_ACTIVATIONS][failure]++;
            strand.depth--;
            if (strand.depth == 0) {
                ledger.failures[FAILURES_STRANDS][failure]++;
                strand.failure = failure;
                endStrand(HAS_FAILED);
            } else {
                doing = FAIL;
            }
        }

        private void endStrand(int state) {
            strand.state = state;
            for (int i = 0; i < strandCount; i++) {
                if (strands[i].state == WAITS_FOR_STRAND && strands[i].waitsFor == turn) {
                    strands[i].wake(steps);
                }
            }
            doing = DONE;
        }

        void gather() {
            store.gather(strands, strandCount);
        }

        int lookAround() {
            if (store.looks >= MOST_LOOKS) {
                return NONE;
            }
            store.gather(strands, strandCount);
            return store.noteLook(steps);
        }

        int told(int what) {
            switch (what) {
                case 1:
                    return steps;
                case 2:
                    return condition == GOES ? turn : NONE;
                case 3:
                    return strandCount;
                case 4:
                    return store.printedCount;
                case 5:
                    return costs.cost;
                case 6:
                    return ledger.probesMet();
                case 7:
                    return store.arrays;
                case 8:
                    return store.looks;
                case 9:
                    return costs.treeNodes;
                default:
                    return NONE;
            }
        }

        int strandTold(int t, int what) {
            Strand told = strands[t];
            int inner = told.depth - 1;
            boolean waits = told.state == WAITS_FOR_LOCK || told.state == WAITS_FOR_STRAND;
            switch (what) {
                case 0:
                    return told.state;
                case 1:
                    return told.depth;
                case 2:
                    return inner < 0 ? NONE : told.memberNow();
                case 3:
                    return inner < 0 ? NONE : told.nodeNow() - text.member[MEMBER_NODE][told.memberNow()];
                case 4:
                    return waits ? told.waitsFor : NONE;
                case 5:
                    return waits ? awaited(told) : NONE;
                case 6:
                    return told.steps;
                case 7:
                    return told.state == HAS_FAILED ? told.failure : NONE;
                case 8:
                    return told.waited + (waits ? steps - told.waitSince : 0);
                default:
                    return NONE;
            }
        }

        private int awaited(Strand waiting) {
            return waiting.state == WAITS_FOR_LOCK ? locks[waiting.waitsFor].owner : waiting.waitsFor;
        }

        int lockTold(int number, int what) {
            Lock lock = locks[number];
            switch (what) {
                case 0:
                    return lock.owner;
                case 1:
                    return lock.takenAnew;
                case 2:
                    return lock.takenAgain;
                case 3:
                    return lock.waits;
                case 4:
                    return lock.waited + waitingNow(number);
                case 5:
                    return lock.had + (lock.owner != NONE ? steps - lock.since : 0);
                case 6:
                    return lock.owners;
                default:
                    return NONE;
            }
        }

        private int waitingNow(int number) {
            int sum = 0;
            for (int i = 0; i < strandCount; i++) {
                if (strands[i].state == WAITS_FOR_LOCK && strands[i].waitsFor == number) {
                    sum += steps - strands[i].waitSince;
                }
            }
            return sum;
        }
    }

    /** A thread: its activations (frames, the eldest first) and the values that are worked out and wait in them. */
    private static final class Strand {
        int state = CAN_GO;
        int waitsFor = NONE;
        int waitSince = 0;
        int waited = 0;
        boolean second = false;
        int steps = 0;
        int failure = NONE;
        int depth = 0;
        int top = 0;
        final int[][] frame = new int[7][MOST_DEPTH];
        final long[] names = new long[MOST_DEPTH * MOST_NAMES];
        final long[] operands = new long[MOST_DEPTH * OPERAND_ROOM];
        final int[] locks = new int[MOST_DEPTH * NESTS];
        /** Of the loops that a frame stands in, outermost first: TURNS so far; of a for its next and last number. */
        final int[] turns = new int[MOST_DEPTH * NESTS];
        final long[] next = new long[MOST_DEPTH * NESTS];
        final long[] last = new long[MOST_DEPTH * NESTS];

        void clear() {
            state = CAN_GO;
            waitsFor = NONE;
            waitSince = 0;
            waited = 0;
            second = false;
            steps = 0;
            failure = NONE;
            depth = 0;
            top = 0;
        }

        void openFrame(int m, int treeNode) {
            int inner = depth;
            depth++;
            frame[FRAME_MEMBER][inner] = m;
            frame[FRAME_PATH][inner] = 0;
            frame[FRAME_TREE][inner] = treeNode;
            frame[FRAME_LOCKS][inner] = 0;
            frame[FRAME_BASE][inner] = 0;
            for (int i = inner * MOST_NAMES; i < depth * MOST_NAMES; i++) {
                names[i] = 0;
            }
        }

        int memberNow() {
            return frame[FRAME_MEMBER][depth - 1];
        }

        int nodeNow() {
            return frame[FRAME_NODE][depth - 1];
        }

        int treeNow() {
            return frame[FRAME_TREE][depth - 1];
        }

        int locksNow() {
            return frame[FRAME_LOCKS][depth - 1];
        }

        int nest(int loopsAround) {
            int nest = loopsAround < NESTS ? loopsAround : NESTS - 1;
            return (depth - 1) * NESTS + (nest > 0 ? nest : 0);
        }

        void push(long value) {
            if (top < operands.length) {
                operands[top] = value;
                top++;
            }
        }

        long pop() {
            if (top == 0) {
                return 0;
            }
            top--;
            return operands[top];
        }

        long nameAt(int slot) {
            return names[(depth - 1) * MOST_NAMES + slot];
        }

        void setName(int slot, long value) {
            if (slot >= 0 && slot < MOST_NAMES) {
                names[(depth - 1) * MOST_NAMES + slot] = value;
            }
        }

        void pushLock(int number) {
            int held = frame[FRAME_LOCKS][depth - 1];
            if (held < NESTS) {
                locks[(depth - 1) * NESTS + held] = number;
                frame[FRAME_LOCKS][depth - 1]++;
            }
        }

        int popLock() {
            frame[FRAME_LOCKS][depth - 1]--;
            return locks[(depth - 1) * NESTS + Math.max(0, frame[FRAME_LOCKS][depth - 1])];
        }

        /** What was worked out for a node is gone when that is left, by failure in its midst, too. */
        void arrive(int n) {
            frame[FRAME_NODE][depth - 1] = n;
            top = frame[FRAME_BASE][depth - 1];
        }

        void await(int how, int what, int step) {
            state = how;
            waitsFor = what;
            waitSince = step;
        }

        void wake(int step) {
            state = CAN_GO;
            second = true;
            waited += step - waitSince;
        }

        int operandsEnd(int inner) {
            return inner + 1 < depth ? frame[FRAME_BASE][inner + 1] : top;
        }
    }

    /** A lock, with the row of the threads that wait for it. */
    private static final class Lock {
        int owner = NONE;
        int takenAnew = 0;
        int takenAgain = 0;
        int waits = 0;
        int waited = 0;
        int had = 0;
        int since = 0;
        int owners = 0;
        int letGoAt = 0;
        private int times = 0;
        private final int[] row = new int[MOST_STRANDS];
        private int rowLength = 0;

        void clear() {
            owner = NONE;
            takenAnew = 0;
            takenAgain = 0;
            waits = 0;
            waited = 0;
            had = 0;
            since = 0;
            owners = 0;
            letGoAt = 0;
            times = 0;
            rowLength = 0;
        }

        boolean takeOrLineUp(int strand, int step) {
            if (owner == strand) {
                times++;
                takenAgain++;
                return true;
            }
            if (owner == NONE) {
                take(strand, step);
                return true;
            }
            if (rowLength < MOST_STRANDS) {
                row[rowLength] = strand;
                rowLength++;
            }
            waits++;
            return false;
        }

        private void take(int strand, int step) {
            owner = strand;
            times = 1;
            takenAnew++;
            owners |= 1 << strand;
            since = step;
        }

        /** Lets it go once: the waiting thread that has it then, or NONE. */
        int letGo(int step) {
            times--;
            if (times > 0) {
                return NONE;
            }
            owner = NONE;
            had += step - since;
            letGoAt = step;
            if (rowLength == 0) {
                return NONE;
            }
            int first = row[0];
            rowLength--;
            for (int i = 0; i < rowLength; i++) {
                row[i] = row[i + 1];
            }
            take(first, step);
            return first;
        }
    }

    /** The vars, the arrays and what was printed; which arrays are REACHED, and the LOOKS at that. */
    private static final class Store {
        static final int MOST_SIZE = 200;
        private static final int MOST_ARRAYS = 300;
        private static final int MOST_ELEMENTS = 6000;
        private static final int MOST_PRINTED = 400;
        private static final int HELD_ITSELF = -2;
        private static final int ARRAY_MEMBER = 0;
        private static final int ARRAY_NODE = 1;
        private static final int ARRAY_SIZE = 2;
        private static final int ARRAY_BYTES = 3;
        private static final int ARRAY_MADE = 4;
        private static final int ARRAY_USED = 5;
        private static final int ARRAY_MISSED = 6;
        private static final int ARRAY_TOLD = 6;
        private static final int ARRAY_FIRST = 7;
        private static final int LOOK_STEPS = 0;
        private static final int LOOK_ARRAYS = 1;
        private static final int LOOK_BYTES = 2;

        final long[] vars = new long[MOST_VARS];
        final int[] holder = new int[MOST_ARRAYS];
        int arrays = 0;
        int looks = 0;
        int printedCount = 0;
        private int elementCount = 0;
        private final int[] printed = new int[MOST_PRINTED];
        private final int[][] array = new int[8][MOST_ARRAYS];
        private final long[] elements = new long[MOST_ELEMENTS];
        private final int[][] look = new int[3][MOST_LOOKS];
        private final int[] row = new int[MOST_ARRAYS];
        private int rowLength = 0;

        void clear() {
            Arrays.fill(vars, 0);
            arrays = 0;
            looks = 0;
            printedCount = 0;
            elementCount = 0;
        }

        int printedAt(int i) {
            return i >= 0 && i < printedCount ? printed[i] : 0;
        }

        boolean printNumber(int value) {
            if (printedCount >= MOST_PRINTED) {
                return false;
            }
            printed[printedCount] = value;
            printedCount++;
            return true;
        }

        boolean hasArray(int a) {
            return a >= 0 && a < arrays;
        }

        boolean hasRoom(int size) {
            return arrays < MOST_ARRAYS && elementCount + size <= MOST_ELEMENTS;
        }

        long makeArray(int size, int m, int node, int step) {
            int a = arrays;
            array[ARRAY_MEMBER][a] = m;
            array[ARRAY_NODE][a] = node;
            array[ARRAY_SIZE][a] = size;
            array[ARRAY_BYTES][a] = 16 + 8 * size;
            array[ARRAY_MADE][a] = step;
            array[ARRAY_USED][a] = step;
            array[ARRAY_MISSED][a] = NONE;
            array[ARRAY_FIRST][a] = elementCount;
            for (int i = 0; i < size; i++) {
                elements[elementCount + i] = 0;
            }
            elementCount += size;
            arrays++;
            return ARRAY_VALUE + a;
        }

        private static int numberOf(long value) {
            return (int) (value - ARRAY_VALUE);
        }

        boolean hasElement(long value, long index) {
            return index >= 0 && index < array[ARRAY_SIZE][numberOf(value)];
        }

        long readElement(long value, long index, int step) {
            int a = numberOf(value);
            array[ARRAY_USED][a] = step;
            return elements[array[ARRAY_FIRST][a] + (int) index];
        }

        void putElement(long value, long index, long put, int step) {
            int a = numberOf(value);
            array[ARRAY_USED][a] = step;
            elements[array[ARRAY_FIRST][a] + (int) index] = put;
        }

        int sizeOf(long value, int step) {
            int a = numberOf(value);
            array[ARRAY_USED][a] = step;
            return array[ARRAY_SIZE][a];
        }

        int arrayTold(int a, int what) {
            return hasArray(a) && what >= 0 && what <= ARRAY_TOLD ? array[what][a] : NONE;
        }

        /** Lets all arrays that are REACHED come into the row, and tells by what each is HELD. */
        void gather(Strand[] strands, int count) {
            Arrays.fill(holder, NONE);
            rowLength = 0;
            for (int i = 0; i < MOST_VARS; i++) {
                come(vars[i], HELD_ITSELF);
            }
            for (int t = 0; t < count; t++) {
                for (int inner = 0; inner < strands[t].depth; inner++) {
                    gatherFrame(strands[t], inner);
                }
            }
            for (int i = 0; i < MOST_ARRAYS && i < rowLength; i++) {
                int first = array[ARRAY_FIRST][row[i]];
                for (int k = 0; k < array[ARRAY_SIZE][row[i]]; k++) {
                    come(elements[first + k], row[i]);
                }
            }
        }

        private void gatherFrame(Strand strand, int inner) {
            for (int i = 0; i < MOST_NAMES; i++) {
                come(strand.names[inner * MOST_NAMES + i], HELD_ITSELF);
            }
            for (int i = strand.frame[FRAME_BASE][inner]; i < strand.operandsEnd(inner); i++) {
                come(strand.operands[i], HELD_ITSELF);
            }
        }

        private void come(long value, int by) {
            if (isArray(value) && rowLength < MOST_ARRAYS && holder[numberOf(value)] == NONE) {
                holder[numberOf(value)] = by;
                row[rowLength] = numberOf(value);
                rowLength++;
            }
        }

        /** Notes what has been gathered: the number of the LOOK, NONE if there can be none more. */
        int noteLook(int step) {
            if (looks >= MOST_LOOKS) {
                return NONE;
            }
            int bytes = 0;
            for (int a = 0; a < arrays; a++) {
                if (holder[a] != NONE) {
                    bytes += array[ARRAY_BYTES][a];
                } else if (array[ARRAY_MISSED][a] == NONE) {
                    array[ARRAY_MISSED][a] = looks;
                }
            }
            look[LOOK_STEPS][looks] = step;
            look[LOOK_ARRAYS][looks] = rowLength;
            look[LOOK_BYTES][looks] = bytes;
            looks++;
            return looks - 1;
        }

        int lookTold(int k, int what) {
            if (k == NONE) {
                return what == 0 ? greatestLook() : NONE;
            }
            return k >= 0 && k < looks && what >= 0 && what <= LOOK_BYTES ? look[what][k] : NONE;
        }

        private int greatestLook() {
            int greatest = looks > 0 ? 0 : NONE;
            for (int k = 1; k < looks; k++) {
                if (look[LOOK_BYTES][k] > look[LOOK_BYTES][greatest]) {
                    greatest = k;
                }
            }
            return greatest;
        }
    }

    /** What was gone in a run: ways, PATHS, LOOPS, FAILURES, and each member's calls and costs. */
    private static final class Ledger {
        static final int LOOP_ROWS = 8;
        private static final int LOOP_ENTRIES = 0;
        private static final int LOOP_TURNS = 1;
        private static final int LOOP_LEAST = 2;
        private static final int LOOP_GREATEST = 3;
        private static final int LOOP_BY_NO = 4;
        private static final int LOOP_BY_BREAK = 5;
        private static final int LOOP_BY_RETURN = 6;
        private static final int LOOP_BY_FAILURE = 7;
        // A PATH that is more than ENTRY to END has a step of its own, so no more than MOST_STEPS and members differ.
        private static final int PATH_ROOM = MOST_STEPS + MOST_MEMBERS;
        private static final int TABLE_BITS = 15;
        private static final int TABLE_ROOM = 1 << TABLE_BITS;
        private static final int SPREAD = 0x9E3779B1;
        private static final int ORDER_BITS = 20;
        private static final int ORDER_MASK = (1 << ORDER_BITS) - 1;

        final int[] ways = new int[WAY_ROOM];
        final int[][] loops = new int[LOOP_ROWS][LOOP_ROOM];
        final int[][] failures = new int[4][FAILURE_KINDS];
        final int[] memberCalls = new int[MOST_MEMBERS];
        final int[] memberCosts = new int[MOST_MEMBERS];
        private Text text;
        private final Chart chart;
        /** The PATHS gone, by a key of member and NUMBER (0: a free place), and how often. */
        private final int[] keys = new int[TABLE_ROOM];
        private final int[] times = new int[TABLE_ROOM];
        private final int[] used = new int[PATH_ROOM];
        private int usedCount = 0;
        private final long[] order = new long[PATH_ROOM];
        private int orderCount = 0;
        /** The member whose PATHS stand in order, NONE when they may do so no longer. */
        private int ordered = NONE;

        Ledger(Text first, Chart by) {
            text = first;
            chart = by;
        }

        void clear(Text of) {
            text = of;
            Arrays.fill(ways, 0);
            for (int i = 0; i < LOOP_ROWS; i++) {
                Arrays.fill(loops[i], i == LOOP_LEAST || i == LOOP_GREATEST ? NONE : 0);
            }
            for (int i = 0; i <= FAILURES_STRANDS; i++) {
                Arrays.fill(failures[i], 0);
            }
            Arrays.fill(memberCalls, 0);
            Arrays.fill(memberCosts, 0);
            for (int i = 0; i < usedCount; i++) {
                keys[used[i]] = 0;
            }
            usedCount = 0;
            ordered = NONE;
        }

        void goWay(int way, Strand strand) {
            ways[way]++;
            leaveLoops(way, strand);
            comeToLoop(way, strand);
            followPath(way, strand);
        }

        private int turnsPlace(int loop, Strand strand) {
            return strand.nest(text.node[NODE_DEPTH][text.loop[LOOP_NODE][loop]] - 1);
        }

        private void leaveLoops(int way, Strand strand) {
            int to = text.way[WAY_TO][way];
            int loop = text.node[NODE_LOOP][text.way[WAY_FROM][way]];
            for (int i = 0; i < NESTS && loop != NONE && !text.isInLoop(to, loop); i++) {
                endLoop(loop, endingOf(way), strand.turns[turnsPlace(loop, strand)]);
                loop = text.loop[LOOP_OUTER][loop];
            }
        }

        private int endingOf(int way) {
            int sort = text.way[WAY_SORT][way];
            if (sort == BY_FAILURE) {
                return LOOP_BY_FAILURE;
            }
            if (sort == NO) {
                return LOOP_BY_NO;
            }
            return text.node[NODE_KIND][text.way[WAY_FROM][way]] == BREAK ? LOOP_BY_BREAK : LOOP_BY_RETURN;
        }

        private void endLoop(int loop, int ending, int turns) {
            loops[ending][loop]++;
            if (loops[LOOP_LEAST][loop] == NONE || turns < loops[LOOP_LEAST][loop]) {
                loops[LOOP_LEAST][loop] = turns;
            }
            loops[LOOP_GREATEST][loop] = Math.max(turns, loops[LOOP_GREATEST][loop]);
        }

        private void comeToLoop(int way, Strand strand) {
            int from = text.loopAt(text.way[WAY_FROM][way]);
            if (from != NONE && text.way[WAY_SORT][way] == YES) {
                loops[LOOP_TURNS][from]++;
                strand.turns[turnsPlace(from, strand)]++;
            }
            int to = text.loopAt(text.way[WAY_TO][way]);
            if (to != NONE && text.way[WAY_BACK][way] == 0) {
                loops[LOOP_ENTRIES][to]++;
                strand.turns[turnsPlace(to, strand)] = 0;
            }
        }

        private void followPath(int way, Strand strand) {
            int inner = strand.depth - 1;
            int m = strand.frame[FRAME_MEMBER][inner];
            int number = strand.frame[FRAME_PATH][inner] + chart.ahead[way];
            if (text.isLastOfPath(way)) {
                if (chart.numbered(m)) {
                    countPath(keyOf(m, number));
                }
                number = chart.base[text.way[WAY_TO][way]];
            }
            strand.frame[FRAME_PATH][inner] = number;
        }

        private static int keyOf(int m, int number) {
            return m * MOST_PATHS + number + 1;
        }

        /** Where a key stands in the table, or the free place where it would. */
        private int placeOf(int key) {
            int place = (key * SPREAD) >>> (32 - TABLE_BITS);
            for (int i = 0; i < TABLE_ROOM && keys[place] != 0 && keys[place] != key; i++) {
                place = (place + 1) & (TABLE_ROOM - 1);
            }
            return place;
        }

        private void countPath(int key) {
            ordered = NONE;
            int place = placeOf(key);
            if (keys[place] == key) {
                times[place]++;
            } else if (usedCount < PATH_ROOM) {
                keys[place] = key;
                times[place] = 1;
                used[usedCount] = place;
                usedCount++;
            }
        }

        int goneBy(int m, int number) {
            int place = placeOf(keyOf(m, number));
            return keys[place] == 0 ? 0 : times[place];
        }

        int mostGone(int m, int k) {
            if (ordered != m) {
                orderPaths(m);
            }
            return k < orderCount ? ORDER_MASK - (int) (order[k] & ORDER_MASK) : NONE;
        }

        private void orderPaths(int m) {
            orderCount = 0;
            int first = keyOf(m, 0);
            for (int i = 0; i < usedCount; i++) {
                int number = keys[used[i]] - first;
                if (number >= 0 && number < MOST_PATHS) {
                    order[orderCount] = ((long) times[used[i]] << ORDER_BITS) + (ORDER_MASK - number);
                    orderCount++;
                }
            }
            sortDown(order, orderCount);
            ordered = m;
        }

        int probesMet() {
            int sum = 0;
            for (int w = 0; w < text.ways; w++) {
                sum += chart.probe[w] ? ways[w] : 0;
            }
            return sum;
        }
    }

    /** What a run costs: by the TREE of calls, and step by step for the LONGEST WAY. */
    private static final class Costs {
        static final int TREE_HOUSE = 0;
        private static final int TREE_OTHER = 1;
        private static final int TREE_ROOM = 200;
        private static final int TREE_PARENT = 0;
        private static final int TREE_MEMBER = 1;
        private static final int TREE_ACTIVATIONS = 2;
        private static final int TREE_OWN = 3;
        private static final int TREE_WHOLE = 4;
        private static final int TREE_CHILD = 5;
        private static final int TREE_NEXT = 6;
        private static final int TREE_LAST = 7;

        int cost = 0;
        int treeNodes = 0;
        private boolean folds = false;
        private final int[][] tree = new int[8][TREE_ROOM];
        private final int[] price = new int[PRICES];
        private int steps = 0;
        // Of each step, from 1 on; 0 stands for none, and is done at 0.
        private final byte[] kindOf = new byte[MOST_STEPS + 1];
        private final byte[] strandOf = new byte[MOST_STEPS + 1];
        private final short[] elementsOf = new short[MOST_STEPS + 1];
        private final short[] behindOf = new short[MOST_STEPS + 1];
        private final short[] joinsOf = new short[MOST_STEPS + 1];
        private final int[] doneAt = new int[MOST_STEPS + 1];
        private final int[] startedBy = new int[MOST_STRANDS];
        private final int[] latest = new int[MOST_STRANDS];
        private final int[] before = new int[MOST_STRANDS];

        void clear(int[] prices, boolean fold) {
            System.arraycopy(prices, 0, price, 0, PRICES);
            folds = fold;
            cost = 0;
            steps = 0;
            treeNodes = 0;
            addTreeNode(NONE, NONE);
            addTreeNode(TREE_HOUSE, NONE);
        }

        private int addTreeNode(int parent, int m) {
            int node = treeNodes;
            treeNodes++;
            tree[TREE_PARENT][node] = parent;
            tree[TREE_MEMBER][node] = m;
            tree[TREE_ACTIVATIONS][node] = 0;
            tree[TREE_OWN][node] = 0;
            tree[TREE_CHILD][node] = NONE;
            tree[TREE_NEXT][node] = NONE;
            tree[TREE_LAST][node] = NONE;
            if (parent != NONE) {
                int elder = tree[TREE_LAST][parent];
                if (elder == NONE) {
                    tree[TREE_CHILD][parent] = node;
                } else {
                    tree[TREE_NEXT][elder] = node;
                }
                tree[TREE_LAST][parent] = node;
            }
            return node;
        }

        /** The node for an activation of a member that is called by one on another node; the activation is counted. */
        int treeNodeFor(int caller, int m) {
            int node = caller == TREE_OTHER ? TREE_OTHER : NONE;
            if (node == NONE && folds) {
                node = nodeAbove(caller, m);
            }
            if (node == NONE) {
                node = childOf(caller, m);
            }
            if (node == NONE) {
                node = treeNodes < TREE_ROOM ? addTreeNode(caller, m) : TREE_OTHER;
            }
            tree[TREE_ACTIVATIONS][node]++;
            return node;
        }

        private int nodeAbove(int caller, int m) {
            int node = caller;
            for (int i = 0; i < TREE_ROOM && node != NONE && tree[TREE_MEMBER][node] != m; i++) {
                node = tree[TREE_PARENT][node];
            }
            return node;
        }

        private int childOf(int caller, int m) {
            int node = tree[TREE_CHILD][caller];
            for (int i = 0; i < TREE_ROOM && node != NONE && tree[TREE_MEMBER][node] != m; i++) {
                node = tree[TREE_NEXT][node];
            }
            return node;
        }

        int treeTold(int node, int what) {
            if (what < 0 || what > TREE_NEXT) {
                return NONE;
            }
            if (what == TREE_WHOLE) {
                addUpWhole();
            }
            return tree[what][node];
        }

        private void addUpWhole() {
            System.arraycopy(tree[TREE_OWN], 0, tree[TREE_WHOLE], 0, treeNodes);
            for (int node = treeNodes - 1; node > TREE_HOUSE; node--) {
                tree[TREE_WHOLE][tree[TREE_PARENT][node]] += tree[TREE_WHOLE][node];
            }
        }

        int openStep(int strand, int kind, int treeNode) {
            steps++;
            kindOf[steps] = (byte) kind;
            strandOf[steps] = (byte) strand;
            elementsOf[steps] = 0;
            behindOf[steps] = 0;
            joinsOf[steps] = 0;
            latest[strand] = steps;
            return pay(price[kind], treeNode);
        }

        private int pay(int sum, int treeNode) {
            cost += sum;
            tree[TREE_OWN][treeNode] += sum;
            return sum;
        }

        int addElements(int count, int treeNode) {
            elementsOf[steps] += (short) count;
            return pay(count * price[ELEMENT], treeNode);
        }

        void startStrand(int strand, int step) {
            startedBy[strand] = step;
            latest[strand] = 0;
        }

        /** The step under way is behind one that let a lock go; behind itself it is not. */
        void behindStep(int step) {
            if (step != steps) {
                behindOf[steps] = (short) step;
            }
        }

        /** The step under way is behind the latest one of a thread that has ended, which stays its latest one. */
        void behindStrand(int strand) {
            joinsOf[steps] |= (short) (1 << strand);
        }

        /** The LONGEST WAY, with another price of a kind (NONE: as they are). */
        int longestWay(int kind, int other) {
            int longest = 0;
            System.arraycopy(startedBy, 0, before, 0, MOST_STRANDS);
            for (int step = 1; step <= steps; step++) {
                int strand = strandOf[step];
                int from = Math.max(doneAt[before[strand]], doneAt[behindOf[step]]);
                if (joinsOf[step] != 0) {
                    from = Math.max(from, joinedAt(step));
                }
                int own = kindOf[step] == kind ? other : price[kindOf[step]];
                int element = kind == ELEMENT ? other : price[ELEMENT];
                doneAt[step] = from + own + elementsOf[step] * element;
                before[strand] = step;
                longest = Math.max(longest, doneAt[step]);
            }
            return longest;
        }

        private int joinedAt(int step) {
            int from = 0;
            for (int i = 0; i < MOST_STRANDS; i++) {
                if ((joinsOf[step] >> i & 1) == 1) {
                    int behind = latest[i] != 0 ? latest[i] : startedBy[i];
                    from = behind < step ? Math.max(from, doneAt[behind]) : from;
                }
            }
            return from;
        }
    }

    /** A keeper of the numbers that a PUT puts. */
    private static final class Keeper {
        private static final int ROWS = 8;

        int node = NONE;
        private final long[] values = new long[ROWS];
        private final int[] counts = new int[ROWS];
        private int rows = 0;
        private int came = 0;
        private int losses = 0;
        private long least = 0;
        private long greatest = 0;
        private long sum = 0;

        void watchNode(int n) {
            node = n;
            empty();
        }

        void empty() {
            rows = 0;
            came = 0;
            losses = 0;
            least = 0;
            greatest = 0;
            sum = 0;
        }

        void see(long value) {
            least = came == 0 ? value : Math.min(least, value);
            greatest = came == 0 ? value : Math.max(greatest, value);
            sum += value;
            came++;
            for (int i = 0; i < rows; i++) {
                if (values[i] == value) {
                    counts[i]++;
                    return;
                }
            }
            if (rows < ROWS) {
                values[rows] = value;
                counts[rows] = 1;
                rows++;
            } else {
                lose();
            }
        }

        private void lose() {
            losses++;
            int left = 0;
            for (int i = 0; i < rows; i++) {
                if (counts[i] > 1) {
                    values[left] = values[i];
                    counts[left] = counts[i] - 1;
                    left++;
                }
            }
            rows = left;
        }

        long toldOfAll(int what) {
            switch (what) {
                case 0:
                    return came;
                case 1:
                    return losses;
                case 2:
                    return rows;
                case 3:
                    return least;
                case 4:
                    return greatest;
                case 5:
                    return sum;
                default:
                    return 0;
            }
        }

        long toldOfRow(int k, int what) {
            for (int i = 0; i < rows; i++) {
                if (rankOf(i) == k) {
                    return what == 0 ? values[i] : what == 1 ? counts[i] : 0;
                }
            }
            return 0;
        }

        private int rankOf(int row) {
            int rank = 0;
            for (int i = 0; i < rows; i++) {
                boolean isAhead = counts[i] > counts[row] || (counts[i] == counts[row] && values[i] < values[row]);
                rank += isAhead ? 1 : 0;
            }
            return rank;
        }
    }
}
