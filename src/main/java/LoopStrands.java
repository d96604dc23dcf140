import java.util.Arrays;

/** Strands without crossings: diagrams, sums of them, and forms on their halves. */
public final class LoopStrands {
    public static final int UNKNOWN = -1, OUTSIDE = -2, STATE = -3, FULL = -4, NONE = -6, FAULT = -7;

    private static final int MOST_STRANDS = 5;
    private static final int MOST_DIAGRAMS = 42;
    private static final int MOST_HALVES = 5;
    private static final int SLOTS = 5;
    private static final int IMAGES = 2;
    private static final int GREATEST_PRIME = 101;
    private static final int GREATEST_BRACKET = 99;
    private static final int FIRST_STRANDS = 3;
    private static final int FIRST_PRIME = 97;
    private static final int FIRST_LOOP = 2;
    private static final int OPEN = -1;
    private static final int NOT_YET = -1;

    private final Pad pad;
    private final Diagrams[] shapes;
    private final State now;
    private final State[] images;
    private final Algebra algebra;
    private final Table table;

    public LoopStrands() {
        pad = new Pad();
        shapes = new Diagrams[MOST_STRANDS + 1];
        shapes[FIRST_STRANDS] = new Diagrams(FIRST_STRANDS);
        now = new State(shapes[FIRST_STRANDS]);
        images = new State[IMAGES];
        algebra = new Algebra();
        table = new Table();
    }

    // ---- 1 diagrams

    public int strands(int v) {
        if (!isWithin(v, 1, MOST_STRANDS)) {
            return OUTSIDE;
        }
        if (shapes[v] == null) {
            shapes[v] = new Diagrams(v);
        }
        now.shape = shapes[v];
        now.clearSums();
        return now.shape.texts.size;
    }

    public int say(int sign) {
        if (!isWithin(sign, 33, 126)) {
            return OUTSIDE;
        }
        if (pad.isFull()) {
            return FULL;
        }
        pad.add(sign);
        return pad.length;
    }

    public int wipe() {
        int had = pad.length;
        pad.clear();
        return had;
    }

    public int fault(int how) {
        if (!isWithin(how, 0, 1)) {
            return OUTSIDE;
        }
        return how == 0 ? pad.diagramFault(now.shape.many) : pad.wordFault(now.shape.many);
    }

    public int diagram() {
        if (pad.diagramFault(now.shape.many) != NONE) {
            return FAULT;
        }
        int told = now.shape.texts.find(pad.diagramCode());
        pad.clear();
        return told;
    }

    public int word(int what) {
        if (!isWithin(what, 0, 1)) {
            return OUTSIDE;
        }
        if (pad.wordFault(now.shape.many) != NONE) {
            return FAULT;
        }
        int made = 0;
        int loops = 0;
        for (int place = 0; place < pad.length; place++) {
            int hook = now.shape.hooks[pad.figure(place)];
            loops += now.shape.stackLoops(made, hook);
            made = now.shape.stackDiagram(made, hook);
        }
        return what == 0 ? made : loops;
    }

    public int of(int diagram, int what) {
        if (!isDiagram(diagram)) {
            return UNKNOWN;
        }
        switch (what) {
            case 0:
                return now.shape.through(diagram);
            case 1:
                return now.shape.closedLoops(diagram);
            case 2:
                return now.shape.turned(diagram);
            case 3:
                return now.shape.wayLength(diagram);
            default:
                return OUTSIDE;
        }
    }

    public int joined(int diagram, int point) {
        if (!isDiagram(diagram) || !isWithin(point, 0, now.shape.points - 1)) {
            return UNKNOWN;
        }
        return now.shape.texts.rows[diagram][point];
    }

    public int stack(int one, int other, int what) {
        if (!isDiagram(one) || !isDiagram(other)) {
            return UNKNOWN;
        }
        if (!isWithin(what, 0, 1)) {
            return OUTSIDE;
        }
        return what == 0 ? now.shape.stackDiagram(one, other) : now.shape.stackLoops(one, other);
    }

    public int way(int diagram, int i) {
        if (!isDiagram(diagram)) {
            return UNKNOWN;
        }
        return now.shape.wayHook(diagram, i);
    }

    // ---- 2 sums

    public int prime(int prime, int loop) {
        if (!isPrime(prime) || !isWithin(loop, 0, prime - 1)) {
            return OUTSIDE;
        }
        int was = now.numbers.prime;
        now.numbers.tell(prime, loop);
        now.clearSums();
        return was;
    }

    public int put(int slot, int diagram, int v) {
        if (!isSlot(slot) || !isDiagram(diagram)) {
            return UNKNOWN;
        }
        if (!isNumber(v)) {
            return OUTSIDE;
        }
        int was = now.sums[slot][diagram];
        now.sums[slot][diagram] = v;
        return was;
    }

    public int at(int slot, int diagram) {
        if (!isSlot(slot) || !isDiagram(diagram)) {
            return UNKNOWN;
        }
        return now.sums[slot][diagram];
    }

    public int both(int to, int one, int other, int way) {
        if (!isSlot(to) || !isSlot(one) || !isSlot(other)) {
            return UNKNOWN;
        }
        switch (way) {
            case 0:
                algebra.add(now, now.sums[to], now.sums[one], now.sums[other]);
                return now.aboveZero(to);
            case 1:
                algebra.subtract(now, now.sums[to], now.sums[one], now.sums[other]);
                return now.aboveZero(to);
            case 2:
                algebra.pile(now, now.sums[to], now.sums[one], now.sums[other]);
                return now.aboveZero(to);
            default:
                return OUTSIDE;
        }
    }

    public int times(int to, int from, int v) {
        if (!isSlot(to) || !isSlot(from)) {
            return UNKNOWN;
        }
        if (!isNumber(v)) {
            return OUTSIDE;
        }
        algebra.scale(now, now.sums[to], now.sums[from], v);
        return now.aboveZero(to);
    }

    public int turn(int to, int from) {
        if (!isSlot(to) || !isSlot(from)) {
            return UNKNOWN;
        }
        algebra.turnOver(now, now.sums[to], now.sums[from]);
        return now.aboveZero(to);
    }

    public int trace(int slot) {
        if (!isSlot(slot)) {
            return UNKNOWN;
        }
        return algebra.close(now, now.sums[slot]);
    }

    public int bracket(int k) {
        if (!isWithin(k, 0, GREATEST_BRACKET)) {
            return OUTSIDE;
        }
        return now.numbers.bracketOf(k);
    }

    public int project(int slot, int n) {
        if (!isSlot(slot)) {
            return UNKNOWN;
        }
        if (!isWithin(n, 1, now.shape.many)) {
            return OUTSIDE;
        }
        if (!now.numbers.hasProjector(n)) {
            return STATE;
        }
        algebra.makeProjector(now, now.sums[slot], n);
        return now.aboveZero(slot);
    }

    // ---- 3 halves

    public int cell(int r, int what) {
        if (!hasHalves(r) || !isWithin(what, 0, 2)) {
            return OUTSIDE;
        }
        Texts halves = now.shape.halves[r];
        if (what == 0) {
            return halves.size;
        }
        table.fill(now.numbers, halves);
        table.eliminate(now.numbers);
        return what == 1 ? table.determinant : table.rank;
    }

    public int form(int r, int i, int j) {
        if (!hasHalves(r)) {
            return OUTSIDE;
        }
        Texts halves = now.shape.halves[r];
        if (!isWithin(i, 0, halves.size - 1) || !isWithin(j, 0, halves.size - 1)) {
            return OUTSIDE;
        }
        return Gluing.formNumber(now.numbers, halves.rows[i], halves.rows[j]);
    }

    // ---- 4 images

    public int image(int k) {
        if (!isWithin(k, 0, IMAGES - 1)) {
            return OUTSIDE;
        }
        if (images[k] == null) {
            images[k] = new State(now.shape);
        }
        images[k].copyFrom(now);
        return 1;
    }

    public int restore(int k) {
        if (!isWithin(k, 0, IMAGES - 1)) {
            return OUTSIDE;
        }
        if (images[k] == null) {
            return STATE;
        }
        now.copyFrom(images[k]);
        return 1;
    }

    public int count(int what) {
        switch (what) {
            case 0:
                return now.shape.many;
            case 1:
                return now.shape.texts.size;
            case 2:
                return now.numbers.prime;
            case 3:
                return now.numbers.loop;
            case 4:
                return pad.length;
            case 5:
                return (images[0] == null ? 0 : 1) + (images[1] == null ? 0 : 2);
            default:
                return OUTSIDE;
        }
    }

    private static boolean isWithin(int v, int least, int most) {
        return v >= least && v <= most;
    }

    private static boolean isPrime(int v) {
        if (!isWithin(v, 2, GREATEST_PRIME)) {
            return false;
        }
        for (int part = 2; part * part <= v; part++) {
            if (v % part == 0) {
                return false;
            }
        }
        return true;
    }

    private boolean isDiagram(int v) {
        return isWithin(v, 0, now.shape.texts.size - 1);
    }

    private boolean isSlot(int v) {
        return isWithin(v, 0, SLOTS - 1);
    }

    private boolean isNumber(int v) {
        return isWithin(v, 0, now.numbers.prime - 1);
    }

    private boolean hasHalves(int r) {
        return isWithin(r, 0, now.shape.many) && now.shape.halves[r] != null;
    }

    /** THE PAD. */
    private static final class Pad {
        private static final int ROOM = 24;

        private final int[] signs = new int[ROOM];
        int length;

        boolean isFull() {
            return length >= ROOM;
        }

        void add(int sign) {
            if (length < ROOM) {
                signs[length] = sign;
                length++;
            }
        }

        void clear() {
            length = 0;
        }

        int diagramFault(int many) {
            int begun = 0;
            int ended = 0;
            for (int place = 0; place < length; place++) {
                if (signs[place] == '(' && begun < many) {
                    begun++;
                } else if (signs[place] == ')' && ended < begun) {
                    ended++;
                } else {
                    return place;
                }
            }
            return length < 2 * many ? length : NONE;
        }

        int wordFault(int many) {
            for (int place = 0; place < length; place++) {
                if (!isWithin(signs[place] - '0', 1, many - 1)) {
                    return place;
                }
            }
            return NONE;
        }

        int figure(int place) {
            return signs[place] - '0';
        }

        int diagramCode() {
            int code = 0;
            for (int place = 0; place < length; place++) {
                code = 2 * code + (signs[place] == '(' ? Texts.BEGINS : Texts.ENDS);
            }
            return code;
        }
    }

    /**
     * All texts of so many places and so many open ones, in order. A text is a code, its signs being
     * figures with the first one heaviest, so that rising codes are the texts in order; and it is a
     * row that tells of each place to which one it is joined.
     */
    private static final class Texts {
        static final int BEGINS = 0;
        static final int ENDS = 1;
        static final int STANDS_OPEN = 2;

        final int size;
        final int[][] rows;
        private final int[] codes;
        private final int places;
        private final int open;
        private final int base;
        private final int[] waiting;

        Texts(int places, int open) {
            this.places = places;
            this.open = open;
            // the third sign would only make more codes to look through where no place is open
            base = open == 0 ? 2 : 3;
            waiting = new int[places];
            int[] found = new int[MOST_DIAGRAMS];
            size = findCodes(found);
            codes = Arrays.copyOf(found, size);
            rows = new int[size][places];
            for (int i = 0; i < size; i++) {
                readCode(codes[i], rows[i]);
            }
        }

        private int findCodes(int[] found) {
            int[] row = new int[places];
            int all = 1;
            for (int place = 0; place < places; place++) {
                all *= base;
            }
            int number = 0;
            for (int code = 0; code < all && number < found.length; code++) {
                if (readCode(code, row)) {
                    found[number] = code;
                    number++;
                }
            }
            return number;
        }

        /** From the last sign back, as the last one is the lightest figure. */
        private boolean readCode(int code, int[] row) {
            int left = code;
            int waits = 0;
            int opens = 0;
            for (int place = places - 1; place >= 0; place--) {
                int sign = left % base;
                left /= base;
                if (sign == ENDS) {
                    waiting[waits] = place;
                    waits++;
                } else if (sign == BEGINS && waits > 0) {
                    waits--;
                    join(row, place, waiting[waits]);
                } else if (sign == STANDS_OPEN && waits == 0) {
                    row[place] = OPEN;
                    opens++;
                } else {
                    return false;
                }
            }
            return waits == 0 && opens == open;
        }

        static void join(int[] row, int one, int other) {
            row[one] = other;
            row[other] = one;
        }

        int find(int code) {
            for (int i = 0; i < size; i++) {
                if (codes[i] == code) {
                    return i;
                }
            }
            return 0;
        }

        /** Only for texts that have no open place. */
        int findRow(int[] row) {
            int code = 0;
            for (int place = 0; place < places; place++) {
                code = 2 * code + (row[place] > place ? BEGINS : ENDS);
            }
            return find(code);
        }
    }

    /** Two rows that are put on each other, place on place. */
    private static final class Gluing {
        private Gluing() {
        }

        static int closedLoops(int[] one, int[] other) {
            int loops = 0;
            for (int place = 0; place < one.length; place++) {
                if (isLeastOfLoop(one, other, place)) {
                    loops++;
                }
            }
            return loops;
        }

        /** Each LOOP is counted once: at its least place. */
        private static boolean isLeastOfLoop(int[] one, int[] other, int start) {
            int place = start;
            for (int step = 0; step < one.length; step++) {
                int across = one[place];
                if (across == OPEN || across < start) {
                    return false;
                }
                place = other[across];
                if (place == OPEN || place < start) {
                    return false;
                }
                if (place == start) {
                    return true;
                }
            }
            return false;
        }

        private static boolean leadsAcross(int[] one, int[] other, int start) {
            int place = start;
            for (int step = 0; step < one.length; step++) {
                int across = other[place];
                if (across == OPEN) {
                    return true;
                }
                place = one[across];
                if (place == OPEN) {
                    return false;
                }
            }
            return false;
        }

        static int formNumber(Numbers numbers, int[] one, int[] other) {
            for (int place = 0; place < one.length; place++) {
                if (one[place] == OPEN && !leadsAcross(one, other, place)) {
                    return 0;
                }
            }
            return numbers.loopPower(closedLoops(one, other));
        }
    }

    /** All DIAGRAMS of so many strands. What is STACKED is found when it is first asked for. */
    private static final class Diagrams {
        static final int PACK = 8;

        final int many;
        final int points;
        final Texts texts;
        final Texts[] halves;
        final int[] hooks;
        private final int[] stacked;
        private final int[] steps;
        private final int[] before;
        private final int[] lastHook;
        private final int[] row;
        private final int[] below;
        private final int[] above;

        Diagrams(int many) {
            this.many = many;
            points = 2 * many;
            texts = new Texts(points, 0);
            halves = new Texts[many + 1];
            for (int r = many; r >= 0; r -= 2) {
                halves[r] = new Texts(many, r);
            }
            row = new int[points];
            below = new int[many];
            above = new int[many];
            stacked = new int[texts.size * texts.size];
            Arrays.fill(stacked, NOT_YET);
            hooks = new int[many];
            for (int i = 1; i < many; i++) {
                hooks[i] = findHook(i);
            }
            steps = new int[texts.size];
            before = new int[texts.size];
            lastHook = new int[texts.size];
            findWays();
        }

        private int opposite(int point) {
            return points - 1 - point;
        }

        private int findHook(int i) {
            for (int point = 0; point < points; point++) {
                row[point] = opposite(point);
            }
            Texts.join(row, i - 1, i);
            Texts.join(row, opposite(i - 1), opposite(i));
            return texts.findRow(row);
        }

        /**
         * DIAGRAMS are reached in the order of their WAYS, the shorter first and the first in order
         * among equals, so the first WORD that comes to a DIAGRAM is its WAY.
         */
        private void findWays() {
            int[] reached = new int[texts.size];
            int number = 1;
            Arrays.fill(steps, NOT_YET);
            steps[0] = 0;
            for (int next = 0; next < texts.size; next++) {
                int from = reached[next];
                for (int hook = 1; hook < many; hook++) {
                    int made = packedStack(from, hooks[hook]) / PACK;
                    if (steps[made] == NOT_YET && number < reached.length) {
                        steps[made] = steps[from] + 1;
                        before[made] = from;
                        lastHook[made] = hook;
                        reached[number] = made;
                        number++;
                    }
                }
            }
        }

        int wayLength(int diagram) {
            return steps[diagram];
        }

        int wayHook(int diagram, int i) {
            if (i < 0 || i >= steps[diagram]) {
                return NONE;
            }
            int reached = diagram;
            for (int step = steps[diagram] - 1; step > i; step--) {
                reached = before[reached];
            }
            return lastHook[reached];
        }

        int through(int diagram) {
            int arcs = 0;
            for (int point = 0; point < many; point++) {
                if (texts.rows[diagram][point] >= many) {
                    arcs++;
                }
            }
            return arcs;
        }

        /** CLOSED: ONE joins just those points that become one. */
        int closedLoops(int diagram) {
            return Gluing.closedLoops(texts.rows[diagram], texts.rows[0]);
        }

        int turned(int diagram) {
            for (int point = 0; point < points; point++) {
                row[opposite(point)] = opposite(texts.rows[diagram][point]);
            }
            return texts.findRow(row);
        }

        int stackDiagram(int one, int other) {
            return packedStack(one, other) / PACK;
        }

        int stackLoops(int one, int other) {
            return packedStack(one, other) % PACK;
        }

        /** The DIAGRAM and, below it, the LOOPS, in one number. */
        int packedStack(int one, int other) {
            int key = one * texts.size + other;
            if (stacked[key] == NOT_YET) {
                int[] upper = texts.rows[one];
                int[] lower = texts.rows[other];
                for (int point = 0; point < points; point++) {
                    row[point] = farEnd(upper, lower, point);
                }
                stacked[key] = PACK * texts.findRow(row) + loopsBetween(upper, lower);
            }
            return stacked[key];
        }

        private int farEnd(int[] upper, int[] lower, int start) {
            boolean isInUpper = start < many;
            int point = start;
            for (int step = 0; step < points; step++) {
                int end = isInUpper ? upper[point] : lower[point];
                if ((end < many) == isInUpper) {
                    return end;
                }
                point = opposite(end);
                isInUpper = !isInUpper;
            }
            return start;
        }

        private int loopsBetween(int[] upper, int[] lower) {
            for (int place = 0; place < many; place++) {
                int end = upper[opposite(place)];
                below[place] = end < many ? OPEN : opposite(end);
                above[place] = lower[place] < many ? lower[place] : OPEN;
            }
            return Gluing.closedLoops(below, above);
        }
    }

    /** NUMBERS by PRIME, with LOOP. */
    private static final class Numbers {
        int prime;
        int loop;
        private final int[] loopPowers = new int[MOST_STRANDS + 1];

        void tell(int prime, int loop) {
            this.prime = prime;
            this.loop = loop;
            loopPowers[0] = 1;
            for (int i = 1; i < loopPowers.length; i++) {
                loopPowers[i] = multiply(loopPowers[i - 1], loop);
            }
        }

        private int leftOver(int v) {
            if (prime < 2) {
                return 0;
            }
            int left = v % prime;
            return left < 0 ? left + prime : left;
        }

        int add(int one, int other) {
            return leftOver(one + other);
        }

        int subtract(int one, int other) {
            return leftOver(one - other);
        }

        int multiply(int one, int other) {
            return leftOver(one * other);
        }

        int inverse(int v) {
            for (int other = 1; other < prime; other++) {
                if (multiply(v, other) == 1) {
                    return other;
                }
            }
            return 0;
        }

        int loopPower(int loops) {
            return isWithin(loops, 0, MOST_STRANDS) ? loopPowers[loops] : 0;
        }

        int bracketOf(int k) {
            int last = 0;
            int next = 1;
            for (int i = 0; i < k; i++) {
                int after = subtract(multiply(loop, next), last);
                last = next;
                next = after;
            }
            return last;
        }

        boolean hasProjector(int n) {
            for (int k = 2; k <= n; k++) {
                if (bracketOf(k) == 0) {
                    return false;
                }
            }
            return true;
        }
    }

    /** All that an IMAGE keeps. */
    private static final class State {
        Diagrams shape;
        final Numbers numbers;
        final int[][] sums;

        State(Diagrams shape) {
            this.shape = shape;
            numbers = new Numbers();
            numbers.tell(FIRST_PRIME, FIRST_LOOP);
            sums = new int[SLOTS][MOST_DIAGRAMS];
        }

        void copyFrom(State other) {
            shape = other.shape;
            numbers.tell(other.numbers.prime, other.numbers.loop);
            for (int slot = 0; slot < SLOTS; slot++) {
                System.arraycopy(other.sums[slot], 0, sums[slot], 0, MOST_DIAGRAMS);
            }
        }

        void clearSums() {
            for (int slot = 0; slot < SLOTS; slot++) {
                Arrays.fill(sums[slot], 0);
            }
        }

        int aboveZero(int slot) {
            int number = 0;
            for (int v : sums[slot]) {
                if (v > 0) {
                    number++;
                }
            }
            return number;
        }
    }

    /** What is done with SUMS. The row that a result goes to may be one that it is made of. */
    private static final class Algebra {
        private final int[] result = new int[MOST_DIAGRAMS];
        private final int[] between = new int[MOST_DIAGRAMS];
        private final int[] hook = new int[MOST_DIAGRAMS];

        void add(State now, int[] to, int[] one, int[] other) {
            for (int i = 0; i < now.shape.texts.size; i++) {
                to[i] = now.numbers.add(one[i], other[i]);
            }
        }

        void subtract(State now, int[] to, int[] one, int[] other) {
            for (int i = 0; i < now.shape.texts.size; i++) {
                to[i] = now.numbers.subtract(one[i], other[i]);
            }
        }

        void scale(State now, int[] to, int[] from, int v) {
            for (int i = 0; i < now.shape.texts.size; i++) {
                to[i] = now.numbers.multiply(from[i], v);
            }
        }

        void turnOver(State now, int[] to, int[] from) {
            Arrays.fill(result, 0);
            for (int i = 0; i < now.shape.texts.size; i++) {
                result[now.shape.turned(i)] = from[i];
            }
            System.arraycopy(result, 0, to, 0, MOST_DIAGRAMS);
        }

        void pile(State now, int[] to, int[] one, int[] other) {
            Arrays.fill(result, 0);
            for (int i = 0; i < now.shape.texts.size; i++) {
                for (int j = 0; j < now.shape.texts.size; j++) {
                    if (one[i] != 0 && other[j] != 0) {
                        int packed = now.shape.packedStack(i, j);
                        int made = packed / Diagrams.PACK;
                        int loops = now.numbers.loopPower(packed % Diagrams.PACK);
                        int product = now.numbers.multiply(now.numbers.multiply(one[i], other[j]), loops);
                        result[made] = now.numbers.add(result[made], product);
                    }
                }
            }
            System.arraycopy(result, 0, to, 0, MOST_DIAGRAMS);
        }

        int close(State now, int[] sum) {
            int closed = 0;
            for (int i = 0; i < now.shape.texts.size; i++) {
                int loops = now.numbers.loopPower(now.shape.closedLoops(i));
                closed = now.numbers.add(closed, now.numbers.multiply(sum[i], loops));
            }
            return closed;
        }

        /** Only if there is one of n, and n is not above MANY. */
        void makeProjector(State now, int[] to, int n) {
            Numbers numbers = now.numbers;
            Arrays.fill(to, 0);
            to[0] = 1;
            for (int k = 1; k < n && k < now.shape.many; k++) {
                Arrays.fill(hook, 0);
                hook[now.shape.hooks[k]] = 1;
                pile(now, between, to, hook);
                pile(now, between, between, to);
                int inverse = numbers.inverse(numbers.bracketOf(k + 1));
                scale(now, between, between, numbers.multiply(numbers.bracketOf(k), inverse));
                subtract(now, to, to, between);
            }
        }
    }

    /** The TABLE of some HALVES. */
    private static final class Table {
        int determinant;
        int rank;
        private final int[][] cells = new int[MOST_HALVES][MOST_HALVES];
        private int size;

        void fill(Numbers numbers, Texts halves) {
            size = Math.min(halves.size, MOST_HALVES);
            for (int i = 0; i < size; i++) {
                for (int j = 0; j < size; j++) {
                    cells[i][j] = Gluing.formNumber(numbers, halves.rows[i], halves.rows[j]);
                }
            }
        }

        void eliminate(Numbers numbers) {
            determinant = 1;
            rank = 0;
            for (int column = 0; column < size; column++) {
                int pivot = findPivot(column);
                if (pivot == size) {
                    determinant = 0;
                } else {
                    if (pivot != rank) {
                        swapRows(pivot, rank);
                        determinant = numbers.subtract(0, determinant);
                    }
                    determinant = numbers.multiply(determinant, cells[rank][column]);
                    clearBelow(numbers, column);
                    rank++;
                }
            }
        }

        private int findPivot(int column) {
            int pivot = rank;
            while (pivot < size && cells[pivot][column] == 0) {
                pivot++;
            }
            return pivot;
        }

        private void swapRows(int one, int other) {
            int[] kept = cells[one];
            cells[one] = cells[other];
            cells[other] = kept;
        }

        private void clearBelow(Numbers numbers, int column) {
            int inverse = numbers.inverse(cells[rank][column]);
            for (int i = rank + 1; i < size; i++) {
                int factor = numbers.multiply(cells[i][column], inverse);
                for (int j = column; j < size; j++) {
                    int part = numbers.multiply(factor, cells[rank][j]);
                    cells[i][j] = numbers.subtract(cells[i][j], part);
                }
            }
        }
    }
}
