import java.util.Arrays;

/** A land in which a duel is put off by reasons; DOC.md says what each call answers. */
public final class DuelDelays {
    public static final int NONE = -1;

    private static final int NO_SUCH = -2;
    private static final int SPENT = -2;

    private static final int MAX_BYTES = 1600;
    private static final int MAX_MEN = 6;
    private static final int MAX_KINDS = 4;
    private static final int MAX_REASONS = 8;
    private static final int MAX_TOLD_DUELS = 6;
    private static final int MAX_DUELS = 8;
    private static final int MAX_UNITS = 60;
    private static final int MAX_UNITS_OF_ONE = 30;
    private static final int MAX_NESTING = 7;
    private static final int MAX_STEPS = 640;
    private static final int MAX_ACTS = 40;
    private static final int MAX_STATES = 3000;
    private static final int MAX_LINES = 60;
    private static final int MAX_SIGHTS = 30;
    private static final int BOXES = 3;
    private static final int LINE_DUEL = 0;
    private static final int LINE_MAN = 1;
    private static final int LINE_REASON = 2;
    private static final int LINE_DAY = 3;
    private static final int LINE_WORTH = 4;
    private static final int MOVES = 2 * MAX_REASONS;
    private static final int LATEST_MORNING = 9999;
    private static final int LATEST_DAY = 9000;
    private static final int LAST_TOLD_DAY = 999;
    private static final int NEVER = 1000000;

    private static final int EACH = 1;
    private static final int ALL = 2;

    private static final int FAULT_NO_TOKEN = 1;
    private static final int FAULT_PLACE = 2;
    private static final int FAULT_TOLD = 3;
    private static final int FAULT_NUMBER = 4;
    private static final int FAULT_UNKNOWN = 5;

    private static final int TOKEN_END = 0;
    private static final int TOKEN_BAD = 1;
    private static final int TOKEN_NAME = 2;
    private static final int TOKEN_WORD = 3;
    private static final int TOKEN_NUMBER = 4;
    private static final int TOKEN_SIGN = 5;

    private static final String SIGNS = ";()<>=+-*/%";
    /** In the order of the WORD_ numbers below. */
    private static final String WORDS =
        "man dies coin son kind reason of by from to rent all each duel with on honour draw or and not day uses spent ";
    private static final int WORD_MAN = 0;
    private static final int WORD_DIES = 1;
    private static final int WORD_COIN = 2;
    private static final int WORD_SON = 3;
    private static final int WORD_KIND = 4;
    private static final int WORD_REASON = 5;
    private static final int WORD_OF = 6;
    private static final int WORD_BY = 7;
    private static final int WORD_FROM = 8;
    private static final int WORD_TO = 9;
    private static final int WORD_RENT = 10;
    private static final int WORD_ALL = 11;
    private static final int WORD_EACH = 12;
    private static final int WORD_DUEL = 13;
    private static final int WORD_WITH = 14;
    private static final int WORD_ON = 15;
    private static final int WORD_HONOUR = 16;
    private static final int WORD_DRAW = 17;
    private static final int WORD_OR = 18;
    private static final int WORD_AND = 19;
    private static final int WORD_NOT = 20;
    private static final int WORD_DAY = 21;
    private static final int WORD_USES = 22;
    private static final int WORD_SPENT = 23;
    private static final int WORD_COUNT = 24;

    /** Steps of a formula; a step of 0 and above is the number itself. */
    private static final int STEP_DAY = -1;
    private static final int STEP_USES = -2;
    private static final int STEP_SPENT = -3;
    private static final int STEP_NOT = -4;
    private static final int STEP_OR = -5;
    private static final int STEP_AND = -6;
    private static final int STEP_LESS = -7;
    private static final int STEP_MORE = -8;
    private static final int STEP_LIKE = -9;
    private static final int STEP_PLUS = -10;
    private static final int STEP_MINUS = -11;
    private static final int STEP_TIMES = -12;
    private static final int STEP_OVER = -13;
    private static final int STEP_REST = -14;

    private final byte[] tape = new byte[MAX_BYTES];
    private int tapeLength;
    private final Reader reader = new Reader();
    private Land land = new Land();
    private Land spareLand = new Land();
    /** The past's states, the one that is now, and those that were taken back, in a row. */
    private final State[] states = new State[MAX_ACTS + 1];
    private int current;
    private int newest;
    private final State[] boxes = new State[BOXES];
    /** As bits. */
    private int fullBoxes;
    private final Search search = new Search();
    private final Sights sights = new Sights();
    private final Parting parting = new Parting();
    private final Heap heap = new Heap();

    public DuelDelays() {
        for (int i = 0; i < states.length; i++) {
            states[i] = new State();
        }
        for (int i = 0; i < boxes.length; i++) {
            boxes[i] = new State();
        }
        states[0].begin(land);
    }

    // ---- the text

    public int feed(int a, int b, int c, int d, int e) {
        if (tapeLength + 20 > MAX_BYTES) {
            return NONE;
        }
        feedNumber(a);
        feedNumber(b);
        feedNumber(c);
        feedNumber(d);
        feedNumber(e);
        return tapeLength;
    }

    private void feedNumber(int number) {
        for (int shift = 24; shift >= 0; shift -= 8) {
            tape[tapeLength] = (byte) (number >> shift);
            tapeLength++;
        }
    }

    public int end(int n) {
        if (n < 0 || n > tapeLength) {
            return NONE;
        }
        tapeLength = n;
        return n;
    }

    public int code() {
        if (!reader.read(tape, tapeLength, spareLand)) {
            return NONE;
        }
        Land told = spareLand;
        spareLand = land;
        land = told;
        tapeLength = 0;
        current = 0;
        newest = 0;
        states[0].begin(land);
        sights.clear();
        heap.clear();
        fullBoxes = 0;
        return land.men.count;
    }

    public int fault(int what) {
        switch (what) {
            case 0:
                return reader.faultCode;
            case 1:
                return reader.faultPlace;
            default:
                return NONE;
        }
    }

    // ---- what is so now

    public int man(int man, int what) {
        if (!land.men.has(man)) {
            return NO_SUCH;
        }
        State now = states[current];
        switch (what) {
            case 0:
                return now.isAlive(man) ? 1 : 0;
            case 1:
                return now.coins[man];
            case 2:
                return land.men.fathers[man];
            case 3:
                return land.men.dies[man];
            case 4:
                return now.rented[man];
            default:
                return NO_SUCH;
        }
    }

    public int duel(int duel, int what) {
        State now = states[current];
        if (!now.hasDuel(duel)) {
            return NO_SUCH;
        }
        switch (what) {
            case 0:
            case 1:
                return now.manOf(duel, what);
            case 2:
                return now.mornings[duel];
            case 3:
                return now.honours[duel];
            case 4:
                return now.isOpen(duel) ? 1 : 0;
            case 5:
                return Integer.bitCount(now.used[duel]);
            default:
                return NO_SUCH;
        }
    }

    public int reason(int reason, int what) {
        Reasons reasons = land.reasons;
        if (!reasons.has(reason)) {
            return NO_SUCH;
        }
        State now = states[current];
        switch (what) {
            case 0:
                return reasons.kinds[reason];
            case 1:
                return now.ownerOf(land, reason);
            case 2:
                return reasons.froms[reason];
            case 3:
                return reasons.tos[reason];
            case 4:
                return reasons.rents[reason];
            case 5:
                return reasons.sorts[reason];
            case 6:
                return now.isStruck(reason) ? 1 : 0;
            case 7:
                return now.timesUsed(reason);
            default:
                return NO_SUCH;
        }
    }

    public int worth(int duel, int reason, int day) {
        State now = states[current];
        if (!now.hasDuel(duel) || !land.reasons.has(reason) || day < 0 || day > LATEST_MORNING) {
            return NONE;
        }
        return land.worthOf(land.reasons.kinds[reason], now.used[duel], day);
    }

    public int may(int duel, int side) {
        State now = states[current];
        if (!now.hasDuel(duel) || !isSide(side)) {
            return NONE;
        }
        return now.usable(land, duel, side);
    }

    public int next(int what) {
        State now = states[current];
        int first = now.firstOpen();
        if (first == NONE) {
            return NONE;
        }
        switch (what) {
            case 0:
                return now.mornings[first];
            case 1:
                return first;
            default:
                return NONE;
        }
    }

    public int heir(int man) {
        return land.men.has(man) ? states[current].heirOf(land, man) : NONE;
    }

    public int his(int man) {
        if (!land.men.has(man)) {
            return NONE;
        }
        State now = states[current];
        int set = 0;
        for (int duel = 0; duel < now.duels; duel++) {
            int side = now.sideOf(duel, man);
            if (side != NONE) {
                set |= now.usable(land, duel, side);
            }
        }
        return set;
    }

    public int comes(int man, int other) {
        Men men = land.men;
        if (!men.has(man) || !men.has(other)) {
            return NONE;
        }
        int forebear = men.fathers[other];
        for (int sons = 1; sons <= MAX_MEN && men.has(forebear); sons++) {
            if (forebear == man) {
                return sons;
            }
            forebear = men.fathers[forebear];
        }
        return 0;
    }

    // ---- acts

    /** A state for another ACT, like the one that is now; what was taken back is gone then. */
    private State nextState() {
        if (current == MAX_ACTS) {
            State oldest = states[0];
            for (int i = 0; i < MAX_ACTS; i++) {
                states[i] = states[i + 1];
            }
            states[MAX_ACTS] = oldest;
            current--;
        }
        states[current + 1].copy(states[current]);
        current++;
        newest = current;
        return states[current];
    }

    public int put(int duel, int side, int reason) {
        State now = states[current];
        if (!now.hasDuel(duel) || !isSide(side) || !land.reasons.has(reason)) {
            return NONE;
        }
        if (!now.isOpen(duel) || !now.mayUse(land, duel, side, reason)) {
            return NONE;
        }
        State then = nextState();
        then.use(land, duel, side, reason);
        return then.mornings[duel];
    }

    public int rent(int man, int reason) {
        State now = states[current];
        if (!land.men.has(man) || !land.reasons.has(reason) || !now.isAlive(man)) {
            return NONE;
        }
        int price = land.reasons.rents[reason];
        if (!now.isRentable(land, man, reason) || now.coins[man] < price) {
            return NONE;
        }
        State then = nextState();
        then.coins[man] -= price;
        then.coins[land.reasons.owners[reason]] += price;
        then.rented[man] |= 1 << reason;
        return then.coins[man];
    }

    public boolean strike(int reason) {
        if (!land.reasons.has(reason) || states[current].isStruck(reason)) {
            return false;
        }
        nextState().struck |= 1 << reason;
        return true;
    }

    public int insult(int man, int other) {
        State now = states[current];
        if (!land.men.has(man) || !land.men.has(other) || man == other || now.duels >= MAX_DUELS) {
            return NONE;
        }
        if (!now.isAlive(man) || !now.isAlive(other) || now.haveOpenDuel(man, other)) {
            return NONE;
        }
        State then = nextState();
        then.addDuel(man, other, then.day + land.honour);
        return then.duels - 1;
    }

    public int days(int n) {
        if (n < 0 || n > 400 || states[current].day + n > LATEST_DAY) {
            return NONE;
        }
        State then = nextState();
        for (int i = 0; i < n; i++) {
            then.passDay(land);
        }
        return then.day;
    }

    public boolean undo() {
        if (current == 0) {
            return false;
        }
        current--;
        return true;
    }

    public boolean redo() {
        if (current >= newest) {
            return false;
        }
        current++;
        return true;
    }

    // ---- what can come

    public int life(int duel) {
        heap.clear();
        State now = states[current];
        if (!now.hasDuel(duel) || !now.isOpen(duel)) {
            return NONE;
        }
        search.prepareDuel(land, now, duel, 0, 0);
        int count = search.findLife();
        for (int i = 0; i < count; i++) {
            int move = search.pathMove(i);
            int man = now.manOf(duel, move / MAX_REASONS);
            heap.add(10 * man + move % MAX_REASONS);
        }
        return count;
    }

    public int late(int duel, int n) {
        State now = states[current];
        if (n < 0 || n > 16 || !now.hasDuel(duel) || !now.isOpen(duel)) {
            return NONE;
        }
        search.prepareDuel(land, now, duel, 0, 0);
        return search.findLatest(n);
    }

    public int last(int duel, int side) {
        State now = states[current];
        if (!isSide(side) || !now.hasDuel(duel) || !now.isOpen(duel)) {
            return NONE;
        }
        search.prepareDuel(land, now, duel, 0, 0);
        return search.findLastReason(side);
    }

    public int shun(int man) {
        State now = states[current];
        if (!land.men.has(man) || !now.isAlive(man) || now.duels >= MAX_DUELS) {
            return NONE;
        }
        int set = 0;
        for (int other = 0; other < land.men.count; other++) {
            if (other == man || !now.isAlive(other) || now.haveOpenDuel(man, other)) {
                continue;
            }
            search.prepare(land, now, man, other, 0, 0);
            search.startAt(0, now.day + land.honour);
            int count = search.findLife();
            if (count == SPENT) {
                return SPENT;
            }
            if (count == NONE) {
                set |= 1 << other;
            }
        }
        return set;
    }

    public int hire(int duel, int side) {
        heap.clear();
        State now = states[current];
        if (!isSide(side) || !now.hasDuel(duel) || !now.isOpen(duel)) {
            return NONE;
        }
        int offered = now.worthRenting(land, duel, side);
        search.prepareDuel(land, now, duel, side, offered);
        // without LIFE by all of them there is none by fewer
        if (search.findLife() == NONE) {
            return NONE;
        }
        int best = NONE;
        int bestPrice = NEVER;
        for (int set = 0; set <= offered; set++) {
            int price = land.reasons.priceOf(set);
            if ((set & ~offered) == 0 && price < bestPrice) {
                search.prepareDuel(land, now, duel, side, set);
                if (search.findLife() >= 0) {
                    best = set;
                    bestPrice = price;
                }
            }
        }
        if (best == NONE) {
            return NONE;
        }
        heap.add(best);
        return bestPrice;
    }

    public int clash(int man) {
        if (!land.men.has(man)) {
            return NONE;
        }
        State now = states[current];
        return now.clashes(man, now.mornings);
    }

    public int part(int man) {
        heap.clear();
        if (!land.men.has(man)) {
            return NONE;
        }
        int count = parting.find(land, states[current], man);
        if (count > 0) {
            heap.add(Parting.told(parting.first));
        }
        if (count > 1) {
            heap.add(Parting.told(parting.second));
        }
        return count;
    }

    public int lies(int i) {
        return i >= 0 && i < heap.count ? heap.numbers[i] : NONE;
    }

    // ---- the log and the sights

    public int log(int i, int what) {
        State now = states[current];
        if (i < 0 || i >= now.lines || what < LINE_DUEL || what > LINE_WORTH) {
            return NONE;
        }
        return now.lineOf(i, what);
    }

    public int began(int duel) {
        State now = states[current];
        if (!now.hasDuel(duel)) {
            return NO_SUCH;
        }
        for (int i = 0; i < now.lines; i++) {
            if (now.lineOf(i, LINE_DUEL) == duel) {
                return now.lineOf(i, LINE_MAN);
            }
        }
        return NONE;
    }

    public int sight(int reason, int day) {
        if (!land.reasons.has(reason) || day < 0 || day > LATEST_DAY) {
            return NONE;
        }
        return sights.tell(reason, day);
    }

    public boolean untell(int sight) {
        return sights.takeBack(sight);
    }

    public int later(int by) {
        if (by < 0 || by > 1000 || sights.time + by > 100000) {
            return NONE;
        }
        sights.time += by;
        return sights.time;
    }

    public int falses(int k) {
        heap.clear();
        State now = states[current];
        int count = 0;
        for (int i = 0; i < now.lines; i++) {
            if (sights.sawLater(now.lineOf(i, LINE_REASON), now.lineOf(i, LINE_DAY), k)) {
                count++;
                if (count <= 8) {
                    heap.add(i);
                }
            }
        }
        return count;
    }

    // ---- images and counts

    public int image(int box) {
        if (box < 0 || box >= BOXES) {
            return NONE;
        }
        boxes[box].copy(states[current]);
        fullBoxes |= 1 << box;
        return states[current].day;
    }

    public int back(int box) {
        if (box < 0 || box >= BOXES || (fullBoxes >> box & 1) == 0) {
            return NONE;
        }
        states[0].copy(boxes[box]);
        current = 0;
        newest = 0;
        return states[0].day;
    }

    public int about(int what) {
        State now = states[current];
        switch (what) {
            case 0:
                return land.men.count;
            case 1:
                return land.formulas.count;
            case 2:
                return land.reasons.count;
            case 3:
                return now.duels;
            case 4:
                return now.day;
            case 5:
                return now.seed;
            case 6:
                return now.alive;
            case 7:
                return Integer.bitCount(now.open);
            case 8:
                return now.lines;
            case 9:
                return current;
            case 10:
                return newest - current;
            case 11:
                return sights.count;
            case 12:
                return sights.time;
            case 13:
                return tapeLength;
            case 14:
                return land.formulas.units;
            case 15:
                return heap.count;
            default:
                return NONE;
        }
    }

    private static boolean isSide(int side) {
        return side == 0 || side == 1;
    }

    private static int indexOf(long[] names, int count, long name) {
        for (int i = 0; i < count; i++) {
            if (names[i] == name) {
                return i;
            }
        }
        return NONE;
    }

    /** The uses, as bits by SIDE and REASON, behind which a SIDE can't use a REASON in that DUEL. */
    private static int barringUses(int sort, int side, int reason) {
        if (sort == EACH) {
            return 1 << (side * MAX_REASONS + reason);
        }
        return (1 << reason) | (1 << (MAX_REASONS + reason));
    }

    /** The numbers that lie there. */
    private static final class Heap {
        int count;
        final int[] numbers = new int[MOVES];

        void clear() {
            count = 0;
        }

        void add(int number) {
            if (count < numbers.length) {
                numbers[count] = number;
                count++;
            }
        }
    }

    /** The MEN as the CODE tells them. */
    private static final class Men {
        int count;
        final long[] names = new long[MAX_MEN];
        final int[] dies = new int[MAX_MEN];
        final int[] coins = new int[MAX_MEN];
        final int[] fathers = new int[MAX_MEN];

        boolean has(int man) {
            return man >= 0 && man < count;
        }
    }

    /** The REASONS as the CODE tells them. */
    private static final class Reasons {
        int count;
        final long[] names = new long[MAX_REASONS];
        final int[] kinds = new int[MAX_REASONS];
        final int[] owners = new int[MAX_REASONS];
        final int[] froms = new int[MAX_REASONS];
        final int[] tos = new int[MAX_REASONS];
        final int[] rents = new int[MAX_REASONS];
        final int[] sorts = new int[MAX_REASONS];

        boolean has(int reason) {
            return reason >= 0 && reason < count;
        }

        boolean isInTime(int reason, int day) {
            return froms[reason] <= day && day <= tos[reason];
        }

        int priceOf(int set) {
            int price = 0;
            for (int reason = 0; reason < count; reason++) {
                if ((set >> reason & 1) != 0) {
                    price += rents[reason];
                }
            }
            return price;
        }
    }

    /** The KINDS, each with its formula as steps for a stack. */
    private static final class Formulas {
        int count;
        int units;
        final long[] names = new long[MAX_KINDS];
        private int unitsOfThis;
        private int length;
        private final int[] starts = new int[MAX_KINDS + 1];
        private final int[] steps = new int[MAX_STEPS];
        private final int[] stack = new int[MAX_UNITS_OF_ONE + 2];

        void clear() {
            count = 0;
            units = 0;
            length = 0;
        }

        void beginKind() {
            starts[count] = length;
            unitsOfThis = 0;
        }

        void closeKind() {
            count++;
            starts[count] = length;
        }

        boolean hasRoomForUnit() {
            return units < MAX_UNITS && unitsOfThis < MAX_UNITS_OF_ONE;
        }

        void countUnit() {
            units++;
            unitsOfThis++;
        }

        void addStep(int step) {
            if (length < MAX_STEPS) {
                steps[length] = step;
                length++;
            }
        }

        int valueOf(int kind, int day, int uses, int spent) {
            int height = 0;
            for (int i = starts[kind]; i < starts[kind + 1]; i++) {
                int step = steps[i];
                if (step > STEP_NOT) {
                    if (height < stack.length) {
                        stack[height] = leaf(step, day, uses, spent);
                        height++;
                    }
                } else if (step == STEP_NOT) {
                    if (height > 0) {
                        stack[height - 1] = stack[height - 1] == 0 ? 1 : 0;
                    }
                } else if (height > 1) {
                    height--;
                    stack[height - 1] = joined(step, stack[height - 1], stack[height]);
                }
            }
            return height > 0 ? stack[0] : 0;
        }

        private static int leaf(int step, int day, int uses, int spent) {
            switch (step) {
                case STEP_DAY:
                    return day;
                case STEP_USES:
                    return uses;
                case STEP_SPENT:
                    return spent;
                default:
                    return step;
            }
        }

        private static int joined(int step, int left, int right) {
            switch (step) {
                case STEP_OR:
                    return left != 0 || right != 0 ? 1 : 0;
                case STEP_AND:
                    return left != 0 && right != 0 ? 1 : 0;
                case STEP_LESS:
                    return left < right ? 1 : 0;
                case STEP_MORE:
                    return left > right ? 1 : 0;
                case STEP_LIKE:
                    return left == right ? 1 : 0;
                case STEP_PLUS:
                    return left + right;
                case STEP_MINUS:
                    return left - right;
                case STEP_TIMES:
                    return left * right;
                case STEP_OVER:
                    return right == 0 ? 0 : left / right;
                case STEP_REST:
                    return right == 0 ? 0 : left % right;
                default:
                    return 0;
            }
        }
    }

    /** All that the CODE tells. */
    private static final class Land {
        final Men men = new Men();
        final Formulas formulas = new Formulas();
        final Reasons reasons = new Reasons();
        int duels;
        final int[] duelSides = new int[2 * MAX_TOLD_DUELS];
        final int[] duelMornings = new int[MAX_TOLD_DUELS];
        int honour = 9;
        int draw;
        /** Of each KIND the uses, as bits by SIDE and REASON, that are of it. */
        final int[] usesOfKind = new int[MAX_KINDS];

        void clear() {
            men.count = 0;
            formulas.clear();
            reasons.count = 0;
            duels = 0;
            honour = 9;
            draw = 0;
            Arrays.fill(usesOfKind, 0);
        }

        boolean isDuelTold(int man, int other) {
            for (int duel = 0; duel < duels; duel++) {
                int first = duelSides[2 * duel];
                int second = duelSides[2 * duel + 1];
                if (first == man && second == other || first == other && second == man) {
                    return true;
                }
            }
            return false;
        }

        int worthOf(int kind, int used, int day) {
            int uses = Integer.bitCount(used & usesOfKind[kind]);
            int days = formulas.valueOf(kind, day, uses, Integer.bitCount(used));
            return Math.max(1, Math.min(365, days));
        }
    }

    /** The TOKENS of a text, one at a time. */
    private static final class Tokens {
        int sort;
        int place;
        /** The WORD_ number, the number, or the sign. */
        int value;
        long name;
        private byte[] text;
        private int length;
        private int following;
        private final long[] words = new long[WORD_COUNT];

        Tokens() {
            int at = 0;
            for (int word = 0; word < WORD_COUNT; word++) {
                long packed = 0;
                for (; at < WORDS.length() && WORDS.charAt(at) != ' '; at++) {
                    packed = withLetter(packed, WORDS.charAt(at));
                }
                words[word] = packed;
                at++;
            }
        }

        void open(byte[] bytes, int count) {
            text = bytes;
            length = bytes == null ? 0 : Math.min(count, bytes.length);
            following = 0;
            advance();
        }

        void advance() {
            while (following < length && isBlank(text[following])) {
                following++;
            }
            place = following;
            value = 0;
            name = 0;
            if (following >= length) {
                sort = TOKEN_END;
            } else if (isLetter(text[following])) {
                takeLetters();
            } else if (isDigit(text[following])) {
                takeDigits();
            } else {
                takeSign();
            }
        }

        boolean isWord(int word) {
            return sort == TOKEN_WORD && value == word;
        }

        boolean isSign(char sign) {
            return sort == TOKEN_SIGN && value == sign;
        }

        private void takeLetters() {
            for (; following < length && isLetter(text[following]); following++) {
                name = withLetter(name, text[following]);
            }
            int word = indexOf(words, WORD_COUNT, name);
            if (following - place > 8) {
                sort = TOKEN_BAD;
            } else if (word != NONE) {
                sort = TOKEN_WORD;
                value = word;
            } else {
                sort = TOKEN_NAME;
            }
        }

        private void takeDigits() {
            for (; following < length && isDigit(text[following]); following++) {
                value = value * 10 + text[following] - '0';
            }
            boolean letterBehind = following < length && isLetter(text[following]);
            sort = following - place > 4 || letterBehind ? TOKEN_BAD : TOKEN_NUMBER;
        }

        private void takeSign() {
            value = text[following] & 255;
            sort = SIGNS.indexOf((char) value) >= 0 ? TOKEN_SIGN : TOKEN_BAD;
            following++;
        }

        /** Five bits a letter, so that words of eight letters and fewer are all unlike. */
        private static long withLetter(long packed, int letter) {
            return packed * 32 + (letter - 'a' + 1);
        }

        private static boolean isBlank(int b) {
            return b == 32 || b == 10;
        }

        private static boolean isLetter(int b) {
            return b >= 'a' && b <= 'z';
        }

        private static boolean isDigit(int b) {
            return b >= '0' && b <= '9';
        }
    }

    /** Reads a text into a Land, up to its first FAULT. */
    private static final class Reader {
        int faultCode;
        int faultPlace = NONE;
        private final Tokens tokens = new Tokens();
        private Land land;
        private boolean honourTold;
        private boolean drawTold;
        /** The number, or the index of the NAME, that was taken last. */
        private int taken;

        boolean read(byte[] text, int length, Land into) {
            faultCode = 0;
            faultPlace = NONE;
            land = into;
            land.clear();
            honourTold = false;
            drawTold = false;
            tokens.open(text, length);
            for (int lines = 0; lines <= MAX_BYTES && tokens.sort != TOKEN_END; lines++) {
                boolean good;
                switch (tokens.sort == TOKEN_WORD ? tokens.value : NONE) {
                    case WORD_MAN:
                        good = readMan();
                        break;
                    case WORD_KIND:
                        good = readKind();
                        break;
                    case WORD_REASON:
                        good = readReason();
                        break;
                    case WORD_DUEL:
                        good = readDuel();
                        break;
                    case WORD_HONOUR:
                        good = readHonour();
                        break;
                    case WORD_DRAW:
                        good = readDraw();
                        break;
                    default:
                        good = refuse(FAULT_PLACE);
                        break;
                }
                if (!good) {
                    return false;
                }
            }
            return true;
        }

        private boolean refuse(int code) {
            faultCode = tokens.sort == TOKEN_BAD ? FAULT_NO_TOKEN : code;
            faultPlace = tokens.place;
            return false;
        }

        private boolean readMan() {
            Men men = land.men;
            int man = men.count;
            if (man >= MAX_MEN) {
                return refuse(FAULT_PLACE);
            }
            tokens.advance();
            if (!takeNewName(men.names, man) || !takeWord(WORD_DIES) || !takeNumber(1, LAST_TOLD_DAY)) {
                return false;
            }
            men.dies[man] = taken;
            if (!takeOption(WORD_COIN, 0, 999, 0)) {
                return false;
            }
            men.coins[man] = taken;
            if (!takeNameOption(WORD_SON, men.names, man)) {
                return false;
            }
            men.fathers[man] = taken;
            if (!takeSign(';')) {
                return false;
            }
            men.count++;
            return true;
        }

        private boolean readKind() {
            Formulas formulas = land.formulas;
            if (formulas.count >= MAX_KINDS) {
                return refuse(FAULT_PLACE);
            }
            tokens.advance();
            if (!takeNewName(formulas.names, formulas.count)) {
                return false;
            }
            formulas.beginKind();
            if (!readChoice(0) || !takeSign(';')) {
                return false;
            }
            formulas.closeKind();
            return true;
        }

        private boolean readReason() {
            Reasons reasons = land.reasons;
            int reason = reasons.count;
            if (reason >= MAX_REASONS) {
                return refuse(FAULT_PLACE);
            }
            tokens.advance();
            if (!takeNewName(reasons.names, reason) || !takeWord(WORD_OF)
                || !takeKnownName(land.formulas.names, land.formulas.count)) {
                return false;
            }
            reasons.kinds[reason] = taken;
            if (!takeNameOption(WORD_BY, land.men.names, land.men.count)) {
                return false;
            }
            reasons.owners[reason] = taken;
            if (!takeOption(WORD_FROM, 0, LAST_TOLD_DAY, 0)) {
                return false;
            }
            reasons.froms[reason] = taken;
            if (!takeOption(WORD_TO, reasons.froms[reason], LAST_TOLD_DAY, LAST_TOLD_DAY)) {
                return false;
            }
            reasons.tos[reason] = taken;
            if (!takeOption(WORD_RENT, 0, 99, 0)) {
                return false;
            }
            reasons.rents[reason] = taken;
            reasons.sorts[reason] = takeSort();
            if (!takeSign(';')) {
                return false;
            }
            land.usesOfKind[reasons.kinds[reason]] |= barringUses(0, 0, reason);
            reasons.count++;
            return true;
        }

        private int takeSort() {
            int sort = tokens.isWord(WORD_ALL) ? ALL : tokens.isWord(WORD_EACH) ? EACH : 0;
            if (sort != 0) {
                tokens.advance();
            }
            return sort;
        }

        private boolean readDuel() {
            Men men = land.men;
            int duel = land.duels;
            if (duel >= MAX_TOLD_DUELS) {
                return refuse(FAULT_PLACE);
            }
            tokens.advance();
            if (!takeKnownName(men.names, men.count) || !takeWord(WORD_WITH)) {
                return false;
            }
            int first = taken;
            if (tokens.sort != TOKEN_NAME) {
                return refuse(FAULT_PLACE);
            }
            int second = indexOf(men.names, men.count, tokens.name);
            if (first == second || land.isDuelTold(first, second)) {
                return refuse(FAULT_TOLD);
            }
            if (!takeKnownName(men.names, men.count) || !takeWord(WORD_ON) || !takeNumber(1, LAST_TOLD_DAY)) {
                return false;
            }
            land.duelSides[2 * duel] = first;
            land.duelSides[2 * duel + 1] = second;
            land.duelMornings[duel] = taken;
            if (!takeSign(';')) {
                return false;
            }
            land.duels++;
            return true;
        }

        private boolean readHonour() {
            if (honourTold) {
                return refuse(FAULT_PLACE);
            }
            honourTold = true;
            tokens.advance();
            if (!takeNumber(1, 99)) {
                return false;
            }
            land.honour = taken;
            return takeSign(';');
        }

        private boolean readDraw() {
            if (drawTold) {
                return refuse(FAULT_PLACE);
            }
            drawTold = true;
            tokens.advance();
            if (!takeNumber(0, 999)) {
                return false;
            }
            land.draw = taken;
            return takeSign(';');
        }

        private boolean takeWord(int word) {
            if (!tokens.isWord(word)) {
                return refuse(FAULT_PLACE);
            }
            tokens.advance();
            return true;
        }

        private boolean takeSign(char sign) {
            if (!tokens.isSign(sign)) {
                return refuse(FAULT_PLACE);
            }
            tokens.advance();
            return true;
        }

        private boolean takeNumber(int least, int most) {
            if (tokens.sort != TOKEN_NUMBER) {
                return refuse(FAULT_PLACE);
            }
            if (tokens.value < least || tokens.value > most) {
                return refuse(FAULT_NUMBER);
            }
            taken = tokens.value;
            tokens.advance();
            return true;
        }

        private boolean takeOption(int word, int least, int most, int untold) {
            if (!tokens.isWord(word)) {
                taken = untold;
                return true;
            }
            tokens.advance();
            return takeNumber(least, most);
        }

        /** The NAME goes behind the others in its row, which the caller counts when the line is whole. */
        private boolean takeNewName(long[] names, int count) {
            if (tokens.sort != TOKEN_NAME) {
                return refuse(FAULT_PLACE);
            }
            if (indexOf(names, count, tokens.name) != NONE) {
                return refuse(FAULT_TOLD);
            }
            if (count < names.length) {
                names[count] = tokens.name;
            }
            tokens.advance();
            return true;
        }

        private boolean takeKnownName(long[] names, int count) {
            if (tokens.sort != TOKEN_NAME) {
                return refuse(FAULT_PLACE);
            }
            taken = indexOf(names, count, tokens.name);
            if (taken == NONE) {
                return refuse(FAULT_UNKNOWN);
            }
            tokens.advance();
            return true;
        }

        private boolean takeNameOption(int word, long[] names, int count) {
            if (!tokens.isWord(word)) {
                taken = NONE;
                return true;
            }
            tokens.advance();
            return takeKnownName(names, count);
        }

        /** e; the nesting is how many units ( e ) and ones behind not it is within. */
        private boolean readChoice(int nesting) {
            if (!readBoth(nesting)) {
                return false;
            }
            for (int i = 0; i < MAX_BYTES && tokens.isWord(WORD_OR); i++) {
                tokens.advance();
                if (!readBoth(nesting)) {
                    return false;
                }
                land.formulas.addStep(STEP_OR);
            }
            return true;
        }

        private boolean readBoth(int nesting) {
            if (!readOne(nesting)) {
                return false;
            }
            for (int i = 0; i < MAX_BYTES && tokens.isWord(WORD_AND); i++) {
                tokens.advance();
                if (!readOne(nesting)) {
                    return false;
                }
                land.formulas.addStep(STEP_AND);
            }
            return true;
        }

        private boolean readOne(int nesting) {
            if (tokens.isWord(WORD_NOT)) {
                if (nesting >= MAX_NESTING) {
                    return refuse(FAULT_PLACE);
                }
                tokens.advance();
                if (!readOne(nesting + 1)) {
                    return false;
                }
                land.formulas.addStep(STEP_NOT);
                return true;
            }
            if (!readSum(nesting)) {
                return false;
            }
            int step = relation();
            if (step == 0) {
                return true;
            }
            tokens.advance();
            if (!readSum(nesting)) {
                return false;
            }
            land.formulas.addStep(step);
            return true;
        }

        private boolean readSum(int nesting) {
            if (!readTerm(nesting)) {
                return false;
            }
            int step = addition();
            for (int i = 0; i < MAX_BYTES && step != 0; i++) {
                tokens.advance();
                if (!readTerm(nesting)) {
                    return false;
                }
                land.formulas.addStep(step);
                step = addition();
            }
            return true;
        }

        private boolean readTerm(int nesting) {
            if (!readUnit(nesting)) {
                return false;
            }
            int step = product();
            for (int i = 0; i < MAX_BYTES && step != 0; i++) {
                tokens.advance();
                if (!readUnit(nesting)) {
                    return false;
                }
                land.formulas.addStep(step);
                step = product();
            }
            return true;
        }

        private boolean readUnit(int nesting) {
            boolean opens = tokens.isSign('(');
            if (!opens && !isPlainUnit() || !land.formulas.hasRoomForUnit() || opens && nesting >= MAX_NESTING) {
                return refuse(FAULT_PLACE);
            }
            land.formulas.countUnit();
            if (!opens) {
                land.formulas.addStep(plainStep());
                tokens.advance();
                return true;
            }
            tokens.advance();
            return readChoice(nesting + 1) && takeSign(')');
        }

        private boolean isPlainUnit() {
            return tokens.sort == TOKEN_NUMBER || tokens.isWord(WORD_DAY) || tokens.isWord(WORD_USES)
                || tokens.isWord(WORD_SPENT);
        }

        private int plainStep() {
            if (tokens.sort == TOKEN_NUMBER) {
                return tokens.value;
            }
            return tokens.isWord(WORD_DAY) ? STEP_DAY : tokens.isWord(WORD_USES) ? STEP_USES : STEP_SPENT;
        }

        private int relation() {
            return tokens.isSign('<') ? STEP_LESS : tokens.isSign('>') ? STEP_MORE
                : tokens.isSign('=') ? STEP_LIKE : 0;
        }

        private int addition() {
            return tokens.isSign('+') ? STEP_PLUS : tokens.isSign('-') ? STEP_MINUS : 0;
        }

        private int product() {
            return tokens.isSign('*') ? STEP_TIMES : tokens.isSign('/') ? STEP_OVER
                : tokens.isSign('%') ? STEP_REST : 0;
        }
    }

    /** What is so in earnest: all that an ACT changes and a BOX keeps. */
    private static final class State {
        int day;
        int seed;
        int alive;
        int struck;
        int open;
        int duels;
        int lines;
        final int[] coins = new int[MAX_MEN];
        final int[] rented = new int[MAX_MEN];
        final int[] mornings = new int[MAX_DUELS];
        final int[] honours = new int[MAX_DUELS];
        /** Of each DUEL the uses, as bits: MAX_REASONS times the SIDE, and the REASON. */
        final int[] used = new int[MAX_DUELS];
        private final int[] sides = new int[2 * MAX_DUELS];
        /** A line in one int, so that 44 states are small: its five numbers from the highest bits down. */
        private final int[] log = new int[MAX_LINES];

        void begin(Land land) {
            day = 0;
            seed = land.draw;
            alive = (1 << land.men.count) - 1;
            struck = 0;
            open = 0;
            duels = 0;
            lines = 0;
            System.arraycopy(land.men.coins, 0, coins, 0, MAX_MEN);
            Arrays.fill(rented, 0);
            for (int duel = 0; duel < land.duels; duel++) {
                addDuel(land.duelSides[2 * duel], land.duelSides[2 * duel + 1], land.duelMornings[duel]);
            }
        }

        void copy(State other) {
            day = other.day;
            seed = other.seed;
            alive = other.alive;
            struck = other.struck;
            open = other.open;
            duels = other.duels;
            lines = other.lines;
            System.arraycopy(other.coins, 0, coins, 0, MAX_MEN);
            System.arraycopy(other.rented, 0, rented, 0, MAX_MEN);
            System.arraycopy(other.mornings, 0, mornings, 0, MAX_DUELS);
            System.arraycopy(other.honours, 0, honours, 0, MAX_DUELS);
            System.arraycopy(other.used, 0, used, 0, MAX_DUELS);
            System.arraycopy(other.sides, 0, sides, 0, 2 * MAX_DUELS);
            System.arraycopy(other.log, 0, log, 0, other.lines);
        }

        boolean isAlive(int man) {
            return (alive >> man & 1) != 0;
        }

        boolean isStruck(int reason) {
            return (struck >> reason & 1) != 0;
        }

        boolean hasDuel(int duel) {
            return duel >= 0 && duel < duels;
        }

        boolean isOpen(int duel) {
            return (open >> duel & 1) != 0;
        }

        int manOf(int duel, int side) {
            return sides[2 * duel + side];
        }

        int sideOf(int duel, int man) {
            return sides[2 * duel] == man ? 0 : sides[2 * duel + 1] == man ? 1 : NONE;
        }

        int lineOf(int i, int what) {
            int line = log[i];
            switch (what) {
                case LINE_DUEL:
                    return line >>> 29;
                case LINE_MAN:
                    return line >>> 26 & 7;
                case LINE_REASON:
                    return line >>> 23 & 7;
                case LINE_DAY:
                    return line >>> 9 & 16383;
                default:
                    return line & 511;
            }
        }

        private void addLine(int duel, int man, int reason, int worth) {
            if (lines < MAX_LINES) {
                log[lines] = duel << 29 | man << 26 | reason << 23 | day << 9 | worth;
                lines++;
            }
        }

        boolean haveOpenDuel(int man, int other) {
            for (int duel = 0; duel < duels; duel++) {
                if (isOpen(duel) && sideOf(duel, man) != NONE && sideOf(duel, other) != NONE) {
                    return true;
                }
            }
            return false;
        }

        int firstOpen() {
            int first = NONE;
            for (int duel = 0; duel < duels; duel++) {
                if (isOpen(duel) && (first == NONE || mornings[duel] < mornings[first])) {
                    first = duel;
                }
            }
            return first;
        }

        int heirOf(Land land, int man) {
            for (int son = 0; son < land.men.count; son++) {
                if (land.men.fathers[son] == man && isAlive(son)) {
                    return son;
                }
            }
            return NONE;
        }

        int timesUsed(int reason) {
            int times = 0;
            for (int duel = 0; duel < duels; duel++) {
                times += Integer.bitCount(used[duel] & barringUses(0, 0, reason));
            }
            return times;
        }

        int ownerOf(Land land, int reason) {
            int owner = land.reasons.owners[reason];
            return owner != NONE && isAlive(owner) ? owner : NONE;
        }

        /** Whether it is another living one's, and he has not RENTED it yet. */
        boolean isRentable(Land land, int man, int reason) {
            int owner = ownerOf(land, reason);
            return owner != NONE && owner != man && (rented[man] >> reason & 1) == 0;
        }

        /** The DAY from which a REASON is free for a MAN: once its owner has died of age it is nobody's. */
        int freeFrom(Land land, int man, int reason) {
            return isRentable(land, man, reason) ? land.men.dies[land.reasons.owners[reason]] : 0;
        }

        /** STRUCK, or used up once for all. */
        boolean isGone(Land land, int reason) {
            return isStruck(reason) || land.reasons.sorts[reason] == ALL && timesUsed(reason) > 0;
        }

        boolean mayUse(Land land, int duel, int side, int reason) {
            int barring = barringUses(land.reasons.sorts[reason], side, reason);
            return day <= mornings[duel] && land.reasons.isInTime(reason, day)
                && freeFrom(land, manOf(duel, side), reason) <= day
                && !isGone(land, reason) && (used[duel] & barring) == 0;
        }

        int usable(Land land, int duel, int side) {
            int set = 0;
            for (int reason = 0; isOpen(duel) && reason < land.reasons.count; reason++) {
                if (mayUse(land, duel, side, reason)) {
                    set |= 1 << reason;
                }
            }
            return set;
        }

        /**
         * REASONS that he could RENT and that could bring LIFE. One that the other SIDE has and that
         * is for both once brings none: either SIDE can use it, and renting it costs states.
         */
        int worthRenting(Land land, int duel, int side) {
            int man = manOf(duel, side);
            int other = manOf(duel, 1 - side);
            int set = 0;
            for (int reason = 0; reason < land.reasons.count; reason++) {
                boolean helps = land.reasons.sorts[reason] == EACH || freeFrom(land, other, reason) > 0;
                if (helps && isRentable(land, man, reason) && !isGone(land, reason)) {
                    set |= 1 << reason;
                }
            }
            return set;
        }

        int putOffBy(Land land, int duel, int reason) {
            int worth = land.worthOf(land.reasons.kinds[reason], used[duel], day);
            return Math.min(LATEST_MORNING, mornings[duel] + worth);
        }

        void use(Land land, int duel, int side, int reason) {
            int man = manOf(duel, side);
            int worth = land.worthOf(land.reasons.kinds[reason], used[duel], day);
            mornings[duel] = putOffBy(land, duel, reason);
            honours[duel] = man;
            used[duel] |= 1 << (side * MAX_REASONS + reason);
            addLine(duel, man, reason, worth);
        }

        void addDuel(int man, int other, int morning) {
            if (duels < MAX_DUELS) {
                sides[2 * duels] = man;
                sides[2 * duels + 1] = other;
                mornings[duels] = morning;
                honours[duels] = NONE;
                used[duels] = 0;
                open |= 1 << duels;
                duels++;
            }
        }

        void passDay(Land land) {
            day++;
            for (int man = 0; man < land.men.count; man++) {
                if (land.men.dies[man] == day && isAlive(man)) {
                    bury(land, man);
                }
            }
            for (int duel = 0; duel < duels; duel++) {
                if (isOpen(duel) && mornings[duel] == day) {
                    fight(land, duel);
                }
            }
        }

        private void fight(Land land, int duel) {
            seed = (seed * 137 + 71) % 1000;
            open &= ~(1 << duel);
            bury(land, manOf(duel, seed % 2));
        }

        private void bury(Land land, int man) {
            alive &= ~(1 << man);
            int heir = heirOf(land, man);
            for (int duel = 0; duel < duels; duel++) {
                int side = sideOf(duel, man);
                if (isOpen(duel) && side != NONE) {
                    int other = manOf(duel, 1 - side);
                    if (heir == NONE || heir == other || haveOpenDuel(heir, other)) {
                        open &= ~(1 << duel);
                    } else {
                        sides[2 * duel + side] = heir;
                    }
                }
            }
        }

        /** MORNINGS of those given on which a MAN has two or more OPEN DUELS. */
        int clashes(int man, int[] given) {
            int count = 0;
            for (int duel = 0; duel < duels; duel++) {
                if (isOpen(duel) && sideOf(duel, man) != NONE && earlierOn(man, given, duel) == 1) {
                    count++;
                }
            }
            return count;
        }

        private int earlierOn(int man, int[] given, int duel) {
            int count = 0;
            for (int earlier = 0; earlier < duel; earlier++) {
                if (isOpen(earlier) && sideOf(earlier, man) != NONE && given[earlier] == given[duel]) {
                    count++;
                }
            }
            return count;
        }
    }

    /** The fewest REASONS that part a MAN's MORNINGS. A move is MOVES times the DUEL, then SIDE and REASON. */
    private static final class Parting {
        int first;
        int second;
        /** The MORNING behind each move, 0 if it may not be. */
        private final int[] behind = new int[MOVES * MAX_DUELS];
        private final int[] mornings = new int[MAX_DUELS];

        static int told(int move) {
            return 100 * duelOf(move) + 10 * sideOf(move) + reasonOf(move);
        }

        int find(Land land, State now, int man) {
            System.arraycopy(now.mornings, 0, mornings, 0, MAX_DUELS);
            if (now.clashes(man, mornings) == 0) {
                return 0;
            }
            fillMoves(land, now, man);
            if (findOne(now, man)) {
                return 1;
            }
            return findTwo(land, now, man) ? 2 : NONE;
        }

        /** Another's DUEL changes nothing for him, so that only his count. */
        private void fillMoves(Land land, State now, int man) {
            Arrays.fill(behind, 0);
            for (int move = 0; move < MOVES * now.duels; move++) {
                int duel = duelOf(move);
                int reason = reasonOf(move);
                boolean his = now.isOpen(duel) && now.sideOf(duel, man) != NONE;
                if (his && land.reasons.has(reason) && now.mayUse(land, duel, sideOf(move), reason)) {
                    behind[move] = now.putOffBy(land, duel, reason);
                }
            }
        }

        private boolean findOne(State now, int man) {
            for (first = 0; first < behind.length; first++) {
                if (behind[first] > 0 && isParted(now, man, first)) {
                    return true;
                }
            }
            return false;
        }

        private boolean findTwo(Land land, State now, int man) {
            for (first = 0; first < behind.length; first++) {
                if (behind[first] > 0) {
                    int duel = duelOf(first);
                    int before = mornings[duel];
                    mornings[duel] = behind[first];
                    if (findSecond(land, now, man)) {
                        return true;
                    }
                    mornings[duel] = before;
                }
            }
            return false;
        }

        private boolean findSecond(Land land, State now, int man) {
            int reason = reasonOf(first);
            boolean onceForAll = land.reasons.has(reason) && land.reasons.sorts[reason] == ALL;
            for (second = MOVES * (duelOf(first) + 1); second < behind.length; second++) {
                boolean usedUp = onceForAll && reasonOf(second) == reason;
                if (behind[second] > 0 && !usedUp && isParted(now, man, second)) {
                    return true;
                }
            }
            return false;
        }

        private boolean isParted(State now, int man, int move) {
            int duel = duelOf(move);
            int before = mornings[duel];
            mornings[duel] = behind[move];
            boolean parted = now.clashes(man, mornings) == 0;
            mornings[duel] = before;
            return parted;
        }

        private static int duelOf(int move) {
            return move / MOVES;
        }

        private static int sideOf(int move) {
            return move % MOVES / MAX_REASONS;
        }

        private static int reasonOf(int move) {
            return move % MAX_REASONS;
        }
    }

    /** Goes through what two can do by REASONS used on the MORNING itself, number by number of them. */
    private static final class Search {
        private static final int SLOTS = 8192;
        private static final int INDEX_BITS = 12;
        private static final int INDEX_MASK = (1 << INDEX_BITS) - 1;
        private static final int MAX_ROUNDS = (1 << (32 - INDEX_BITS)) - 1;
        private static final int MORNING_BITS = 14;
        private static final int MORNING_MASK = (1 << MORNING_BITS) - 1;

        private Land land;
        /** The DAY on which one of both dies. */
        private int deathDay;
        /** By SIDE and REASON the DAY from which that one is free for him, NEVER if it is gone. */
        private final int[] freeFrom = new int[MOVES];
        /** By SIDE and REASON the uses behind which he can't use it. */
        private final int[] barring = new int[MOVES];
        /** Of a state what was used, above its MORNING. */
        private final int[] keys = new int[MAX_STATES];
        /** How it was come to: MOVES times the state ahead of it, and the move. */
        private final int[] ways = new int[MAX_STATES];
        private int count;
        private final boolean[] wins = new boolean[MAX_STATES];
        /** Where a state is by its key: the number of its round, so that none need be cleared, above its index. */
        private final int[] slots = new int[SLOTS];
        private int round;
        /** WORTH by KIND in the state at hand, 0 if it was not needed yet. */
        private final int[] worths = new int[MAX_KINDS];
        private final int[] path = new int[MOVES];

        int pathMove(int i) {
            return i >= 0 && i < path.length ? path[i] : 0;
        }

        /** For a DUEL as it is, but that one SIDE has RENTED a set more. */
        void prepareDuel(Land told, State now, int duel, int side, int set) {
            int first = now.manOf(duel, 0);
            int second = now.manOf(duel, 1);
            prepare(told, now, first, second, side, set);
            startAt(now.used[duel], now.mornings[duel]);
        }

        void prepare(Land told, State now, int first, int second, int side, int set) {
            land = told;
            deathDay = Math.min(told.men.dies[first], told.men.dies[second]);
            for (int move = 0; move < MOVES; move++) {
                int reason = move % MAX_REASONS;
                int turn = move / MAX_REASONS;
                barring[move] = barringUses(told.reasons.sorts[reason], turn, reason);
                if (!told.reasons.has(reason) || now.isGone(told, reason)) {
                    freeFrom[move] = NEVER;
                } else if (turn == side && (set >> reason & 1) != 0) {
                    freeFrom[move] = 0;
                } else {
                    freeFrom[move] = now.freeFrom(told, turn == 0 ? first : second, reason);
                }
            }
        }

        void startAt(int used, int morning) {
            round++;
            if (round > MAX_ROUNDS) {
                round = 1;
                Arrays.fill(slots, 0);
            }
            count = 0;
            reach(used << MORNING_BITS | morning, 0, 0);
        }

        /** How many REASONS, which are the path then; NONE or SPENT. */
        int findLife() {
            int from = 0;
            for (int number = 0; number <= MOVES && from < count; number++) {
                int to = count;
                for (int i = from; i < to; i++) {
                    if (morningOf(i) >= deathDay) {
                        keepPath(i, number);
                        return number;
                    }
                }
                if (!expand(from, to, 0, 1)) {
                    return SPENT;
                }
                from = to;
            }
            return NONE;
        }

        int findLatest(int most) {
            int from = 0;
            for (int number = 0; number < most && from < count; number++) {
                int to = count;
                if (!expand(from, to, 0, 1)) {
                    return SPENT;
                }
                from = to;
            }
            int latest = 0;
            for (int i = 0; i < count; i++) {
                latest = Math.max(latest, morningOf(i));
            }
            return latest;
        }

        /** 10 + the REASON by which the SIDE that begins wins, else 0; SPENT. */
        int findLastReason(int side) {
            int from = 0;
            for (int number = 0; number <= MOVES && from < count; number++) {
                int to = count;
                int turn = (side + number) % 2;
                if (!expand(from, to, turn, turn)) {
                    return SPENT;
                }
                from = to;
            }
            int spentBefore = Integer.bitCount(usedOf(0));
            int reason = NONE;
            for (int i = count - 1; i >= 0; i--) {
                int turn = (side + Integer.bitCount(usedOf(i)) - spentBefore) % 2;
                reason = winningReason(i, turn);
                wins[i] = reason != NONE;
            }
            return reason == NONE ? 0 : 10 + reason;
        }

        private int winningReason(int i, int turn) {
            if (morningOf(i) >= deathDay) {
                return NONE;
            }
            Arrays.fill(worths, 0);
            for (int reason = 0; reason < land.reasons.count; reason++) {
                int move = turn * MAX_REASONS + reason;
                if (allows(i, move)) {
                    int slot = slotOf(keyBehind(i, move));
                    if (isTaken(slot) && !wins[slots[slot] & INDEX_MASK]) {
                        return reason;
                    }
                }
            }
            return NONE;
        }

        private int usedOf(int i) {
            return keys[i] >> MORNING_BITS;
        }

        private int morningOf(int i) {
            return keys[i] & MORNING_MASK;
        }

        private void keepPath(int goal, int number) {
            int at = goal;
            for (int i = Math.min(number, path.length) - 1; i >= 0; i--) {
                path[i] = ways[at] % MOVES;
                at = ways[at] / MOVES;
            }
        }

        /** All states that come of those from .. to by one more REASON; false if they are too many. */
        private boolean expand(int from, int to, int firstSide, int lastSide) {
            for (int i = from; i < to; i++) {
                if (morningOf(i) >= deathDay) {
                    continue;
                }
                Arrays.fill(worths, 0);
                int lastMove = lastSide * MAX_REASONS + land.reasons.count - 1;
                for (int move = firstSide * MAX_REASONS; move <= lastMove; move++) {
                    if (allows(i, move) && !reach(keyBehind(i, move), i, move)) {
                        return false;
                    }
                }
            }
            return true;
        }

        private boolean allows(int i, int move) {
            int morning = morningOf(i);
            int reason = move % MAX_REASONS;
            return freeFrom[move] <= morning
                && land.reasons.isInTime(reason, morning)
                && (usedOf(i) & barring[move]) == 0;
        }

        private int keyBehind(int i, int move) {
            int kind = land.reasons.kinds[move % MAX_REASONS];
            if (worths[kind] == 0) {
                worths[kind] = land.worthOf(kind, usedOf(i), morningOf(i));
            }
            int used = usedOf(i) | 1 << move;
            return used << MORNING_BITS | Math.min(LATEST_MORNING, morningOf(i) + worths[kind]);
        }

        /** Comes to a state, from a parent by a move; false if it is one too many. */
        private boolean reach(int key, int parent, int move) {
            int slot = slotOf(key);
            if (isTaken(slot)) {
                return true;
            }
            if (count >= MAX_STATES) {
                return false;
            }
            slots[slot] = round << INDEX_BITS | count;
            keys[count] = key;
            ways[count] = MOVES * parent + move;
            count++;
            return true;
        }

        /** The slot that holds the key, or the free one in which it belongs. */
        private int slotOf(int key) {
            int slot = (key * 0x9E3779B1) >>> 19;
            for (int i = 0; i < SLOTS && isTaken(slot) && keys[slots[slot] & INDEX_MASK] != key; i++) {
                slot = (slot + 1) % SLOTS;
            }
            return slot;
        }

        private boolean isTaken(int slot) {
            return slots[slot] >>> INDEX_BITS == round;
        }
    }

    /** SIGHTS, each TOLD at a TIME and perhaps UNTOLD at another. */
    private static final class Sights {
        int time;
        int count;
        private final int[] reasons = new int[MAX_SIGHTS];
        private final int[] days = new int[MAX_SIGHTS];
        private final int[] toldAt = new int[MAX_SIGHTS];
        private final int[] untoldAt = new int[MAX_SIGHTS];

        /** The TIME goes on. */
        void clear() {
            count = 0;
        }

        int tell(int reason, int day) {
            if (count >= MAX_SIGHTS) {
                return NONE;
            }
            reasons[count] = reason;
            days[count] = day;
            toldAt[count] = time;
            untoldAt[count] = NONE;
            count++;
            return count - 1;
        }

        boolean takeBack(int sight) {
            if (sight < 0 || sight >= count || untoldAt[sight] != NONE) {
                return false;
            }
            untoldAt[sight] = time;
            return true;
        }

        boolean sawLater(int reason, int day, int k) {
            for (int i = 0; i < count; i++) {
                boolean counts = toldAt[i] <= k && (untoldAt[i] == NONE || untoldAt[i] > k);
                if (counts && reasons[i] == reason && days[i] > day) {
                    return true;
                }
            }
            return false;
        }
    }
}
