import java.util.ArrayList;
import java.util.Arrays;
import java.util.Collections;
import java.util.HashMap;
import java.util.List;
import java.util.Map;
import java.util.Random;

/**
 * The class against a second, slow telling of the document that shares nothing with it: texts are made by
 * recursion and sorted, STACKED, CLOSED and FORM are counted as the pieces of a graph, WAYS are looked for
 * among all WORDS by length and order, and DETERMINANT and RANK are worked out by minors. PROJECTORS follow the
 * same rule in both, so what they must do to HOOKS is looked at in PromisesTest.
 *
 * No object is used for more than the document's 512 calls.
 */
public final class OracleTest {
    private static final int UNKNOWN = -1, OUTSIDE = -2, STATE = -3, FULL = -4, NONE = -6, FAULT = -7;

    private static int wrong = 0;

    private static void due(String call, int got, int want) {
        if (got != want) {
            wrong++;
            if (wrong < 50) {
                System.out.println(call + " answered " + got + ", due is " + want);
            }
        }
    }

    // ---- pieces of a graph

    private static final class Graph {
        private final int[] leader;

        Graph(int size) {
            leader = new int[size];
            for (int i = 0; i < size; i++) {
                leader[i] = i;
            }
        }

        int find(int v) {
            return leader[v] == v ? v : find(leader[v]);
        }

        void link(int a, int b) {
            leader[find(a)] = find(b);
        }

        int pieces() {
            int n = 0;
            for (int i = 0; i < leader.length; i++) {
                n += leader[i] == i ? 1 : 0;
            }
            return n;
        }
    }

    // ---- texts

    private static void grow(String text, int length, int open, int depth, List<String> to) {
        if (text.length() == length) {
            if (depth == 0 && text.chars().filter(c -> c == '|').count() == open) {
                to.add(text);
            }
            return;
        }
        grow(text + "(", length, open, depth + 1, to);
        if (depth > 0) {
            grow(text + ")", length, open, depth - 1, to);
        } else {
            grow(text + "|", length, open, depth, to);
        }
    }

    private static List<String> texts(int length, int open) {
        List<String> to = new ArrayList<>();
        grow("", length, open, 0, to);
        Collections.sort(to);
        return to;
    }

    private static int[] arcs(String text) {
        int[] to = new int[text.length()];
        for (int i = 0; i < text.length(); i++) {
            to[i] = -1;
            for (int j = 0; j < text.length(); j++) {
                int low = Math.min(i, j), high = Math.max(i, j);
                if (low != high && text.charAt(low) == '(' && text.charAt(high) == ')'
                        && isBalanced(text.substring(low + 1, high))) {
                    to[i] = j;
                }
            }
        }
        return to;
    }

    private static boolean isBalanced(String text) {
        String left = text;
        while (left.contains("()")) {
            left = left.replace("()", "");
        }
        return left.isEmpty();
    }

    // ---- what the document says of diagrams, once for each MANY

    private static final class Shape {
        final int many;
        final List<String> diagrams;
        final int[][] arcs;
        final int[][] stacked, loops;
        final String[] ways;
        final int[] closed, turned, through;

        Shape(int many) {
            this.many = many;
            diagrams = texts(2 * many, 0);
            int n = diagrams.size();
            arcs = new int[n][];
            for (int d = 0; d < n; d++) {
                arcs[d] = OracleTest.arcs(diagrams.get(d));
            }
            stacked = new int[n][n];
            loops = new int[n][n];
            closed = new int[n];
            turned = new int[n];
            through = new int[n];
            for (int d = 0; d < n; d++) {
                alone(d);
                for (int e = 0; e < n; e++) {
                    pair(d, e);
                }
            }
            ways = new String[n];
            findWays();
        }

        private int numberOf(int[] joined) {
            StringBuilder text = new StringBuilder();
            for (int i = 0; i < joined.length; i++) {
                text.append(joined[i] > i ? '(' : ')');
            }
            return diagrams.indexOf(text.toString());
        }

        private void alone(int d) {
            int[] turn = new int[2 * many];
            Graph g = new Graph(2 * many);
            for (int i = 0; i < 2 * many; i++) {
                // places as (side, from left): a POINT i above is (0, i), one below is (1, 2 MANY - 1 - i)
                turn[2 * many - 1 - i] = 2 * many - 1 - arcs[d][i];
                through[d] += i < many && arcs[d][i] >= many ? 1 : 0;
                g.link(i, arcs[d][i]);
                g.link(i, 2 * many - 1 - i);
            }
            closed[d] = g.pieces();
            turned[d] = numberOf(turn);
        }

        private void pair(int a, int b) {
            int points = 2 * many;
            Graph g = new Graph(2 * points);
            for (int i = 0; i < points; i++) {
                g.link(i, arcs[a][i]);
                g.link(points + i, points + arcs[b][i]);
            }
            for (int left = 0; left < many; left++) {
                g.link(points - 1 - left, points + left);
            }
            int[] outer = new int[points];
            for (int i = 0; i < points; i++) {
                outer[i] = i < many ? i : points + i;
            }
            int[] joined = new int[points];
            for (int i = 0; i < points; i++) {
                for (int j = 0; j < points; j++) {
                    if (i != j && g.find(outer[i]) == g.find(outer[j])) {
                        joined[i] = j;
                    }
                }
            }
            stacked[a][b] = numberOf(joined);
            // each strand that comes out is a piece, and so is each LOOP
            loops[a][b] = g.pieces() - many;
        }

        int hook(int i) {
            int[] joined = arcs[0].clone();
            int[] ends = {i - 1, i, 2 * many - i, 2 * many - 1 - i};
            joined[ends[0]] = ends[1];
            joined[ends[1]] = ends[0];
            joined[ends[2]] = ends[3];
            joined[ends[3]] = ends[2];
            return numberOf(joined);
        }

        int[] make(String word) {
            int[] made = {0, 0};
            for (char c : word.toCharArray()) {
                int h = hook(c - '0');
                made[1] += loops[made[0]][h];
                made[0] = stacked[made[0]][h];
            }
            return made;
        }

        private void findWays() {
            List<String> words = List.of("");
            for (int length = 0; length <= 6; length++) {
                List<String> longer = new ArrayList<>();
                for (String word : words) {
                    int made = make(word)[0];
                    if (ways[made] == null) {
                        ways[made] = word;
                    }
                    for (int i = 1; i < many; i++) {
                        longer.add(word + i);
                    }
                }
                words = longer;
            }
        }
    }

    private static final Map<Integer, Shape> SHAPES = new HashMap<>();

    private static Shape shape(int many) {
        return SHAPES.computeIfAbsent(many, Shape::new);
    }

    // ---- the object as the document tells it

    private static final class Model {
        int many = 3, prime = 97, loop = 2;
        int[][] sums = new int[5][42];
        StringBuilder pad = new StringBuilder();
        Model[] images = new Model[2];

        Shape s() {
            return shape(many);
        }

        int size() {
            return s().diagrams.size();
        }

        boolean noDiagram(int d) {
            return d < 0 || d >= size();
        }

        boolean noSlot(int s) {
            return s < 0 || s > 4;
        }

        boolean noNumber(int v) {
            return v < 0 || v >= prime;
        }

        long power(int n) {
            long p = 1;
            for (int i = 0; i < n; i++) {
                p *= loop;
            }
            return p;
        }

        int mod(long v) {
            return (int) Math.floorMod(v, (long) prime);
        }

        int strands(int v) {
            if (v < 1 || v > 5) {
                return OUTSIDE;
            }
            many = v;
            sums = new int[5][42];
            return size();
        }

        int say(int sign) {
            if (sign < 33 || sign > 126) {
                return OUTSIDE;
            }
            if (pad.length() == 24) {
                return FULL;
            }
            pad.append((char) sign);
            return pad.length();
        }

        int wipe() {
            int n = pad.length();
            pad.setLength(0);
            return n;
        }

        int fault(int how) {
            if (how != 0 && how != 1) {
                return OUTSIDE;
            }
            for (int i = 0; i < pad.length(); i++) {
                String begin = pad.substring(0, i + 1);
                boolean fits = how == 0
                        ? s().diagrams.stream().anyMatch(t -> t.startsWith(begin))
                        : begin.chars().allMatch(c -> c > '0' && c < '0' + many);
                if (!fits) {
                    return i;
                }
            }
            return how == 0 && pad.length() < 2 * many ? pad.length() : NONE;
        }

        int diagram() {
            if (fault(0) != NONE) {
                return FAULT;
            }
            int d = s().diagrams.indexOf(pad.toString());
            pad.setLength(0);
            return d;
        }

        int word(int what) {
            if (what != 0 && what != 1) {
                return OUTSIDE;
            }
            return fault(1) != NONE ? FAULT : s().make(pad.toString())[what];
        }

        int of(int d, int what) {
            if (noDiagram(d)) {
                return UNKNOWN;
            }
            if (what < 0 || what > 3) {
                return OUTSIDE;
            }
            return new int[] {s().through[d], s().closed[d], s().turned[d], s().ways[d].length()}[what];
        }

        int joined(int d, int p) {
            return noDiagram(d) || p < 0 || p >= 2 * many ? UNKNOWN : s().arcs[d][p];
        }

        int stack(int a, int b, int what) {
            if (noDiagram(a) || noDiagram(b)) {
                return UNKNOWN;
            }
            return what == 0 ? s().stacked[a][b] : what == 1 ? s().loops[a][b] : OUTSIDE;
        }

        int way(int d, int i) {
            if (noDiagram(d)) {
                return UNKNOWN;
            }
            String way = s().ways[d];
            return i < 0 || i >= way.length() ? NONE : way.charAt(i) - '0';
        }

        int prime(int p, int l) {
            boolean is = p >= 2 && p <= 101;
            for (int i = 2; is && i < p; i++) {
                is = p % i != 0;
            }
            if (!is || l < 0 || l >= p) {
                return OUTSIDE;
            }
            int was = prime;
            prime = p;
            loop = l;
            sums = new int[5][42];
            return was;
        }

        int put(int slot, int d, int v) {
            if (noSlot(slot) || noDiagram(d)) {
                return UNKNOWN;
            }
            if (noNumber(v)) {
                return OUTSIDE;
            }
            int was = sums[slot][d];
            sums[slot][d] = v;
            return was;
        }

        int at(int slot, int d) {
            return noSlot(slot) || noDiagram(d) ? UNKNOWN : sums[slot][d];
        }

        private int hold(int to, int[] sum) {
            sums[to] = sum;
            return (int) Arrays.stream(sum).filter(v -> v > 0).count();
        }

        int[] pile(int[] one, int[] other) {
            long[] made = new long[42];
            for (int a = 0; a < size(); a++) {
                for (int b = 0; b < size(); b++) {
                    made[s().stacked[a][b]] += (long) one[a] * other[b] * power(s().loops[a][b]);
                }
            }
            return Arrays.stream(made).mapToInt(this::mod).toArray();
        }

        int both(int to, int one, int other, int way) {
            if (noSlot(to) || noSlot(one) || noSlot(other)) {
                return UNKNOWN;
            }
            if (way < 0 || way > 2) {
                return OUTSIDE;
            }
            if (way == 2) {
                return hold(to, pile(sums[one], sums[other]));
            }
            int[] made = new int[42];
            for (int d = 0; d < 42; d++) {
                made[d] = mod(sums[one][d] + (way == 0 ? sums[other][d] : -sums[other][d]));
            }
            return hold(to, made);
        }

        int times(int to, int from, int v) {
            if (noSlot(to) || noSlot(from)) {
                return UNKNOWN;
            }
            return noNumber(v) ? OUTSIDE : hold(to, Arrays.stream(sums[from]).map(n -> mod((long) n * v)).toArray());
        }

        int turn(int to, int from) {
            if (noSlot(to) || noSlot(from)) {
                return UNKNOWN;
            }
            int[] made = new int[42];
            for (int d = 0; d < size(); d++) {
                made[s().turned[d]] = sums[from][d];
            }
            return hold(to, made);
        }

        int trace(int slot) {
            if (noSlot(slot)) {
                return UNKNOWN;
            }
            long sum = 0;
            for (int d = 0; d < size(); d++) {
                sum += sums[slot][d] * mod(power(s().closed[d]));
            }
            return mod(sum);
        }

        int bracket(int k) {
            if (k < 0 || k > 99) {
                return OUTSIDE;
            }
            int[] b = new int[100];
            b[1] = 1;
            for (int i = 2; i < 100; i++) {
                b[i] = mod((long) loop * b[i - 1] - b[i - 2]);
            }
            return b[k];
        }

        int project(int slot, int n) {
            if (noSlot(slot)) {
                return UNKNOWN;
            }
            if (n < 1 || n > many) {
                return OUTSIDE;
            }
            for (int k = 2; k <= n; k++) {
                if (bracket(k) == 0) {
                    return STATE;
                }
            }
            return hold(slot, projector(n));
        }

        private int[] projector(int n) {
            int[] made = new int[42];
            if (n == 1) {
                made[0] = 1;
                return made;
            }
            int[] p = projector(n - 1);
            int[] hook = new int[42];
            hook[s().hook(n - 1)] = 1;
            int[] less = pile(pile(p, hook), p);
            int divided = 0;
            while (mod(divided * bracket(n)) != bracket(n - 1)) {
                divided++;
            }
            for (int d = 0; d < 42; d++) {
                made[d] = mod(p[d] - (long) divided * less[d]);
            }
            return made;
        }

        boolean noHalves(int r) {
            return r < 0 || r > many || (many - r) % 2 != 0;
        }

        int formOf(String x, String y) {
            Graph g = new Graph(2 * many);
            int[] up = arcs(x), down = arcs(y);
            for (int i = 0; i < many; i++) {
                g.link(i, many + i);
                g.link(i, up[i] < 0 ? i : up[i]);
                g.link(many + i, down[i] < 0 ? many + i : many + down[i]);
            }
            int open = 0;
            for (int i = 0; i < many; i++) {
                if (up[i] < 0) {
                    open++;
                    boolean comes = false;
                    for (int j = 0; j < many; j++) {
                        comes |= down[j] < 0 && g.find(i) == g.find(many + j);
                    }
                    if (!comes) {
                        return 0;
                    }
                }
            }
            return mod(power(g.pieces() - open));
        }

        int form(int r, int i, int j) {
            if (noHalves(r)) {
                return OUTSIDE;
            }
            List<String> halves = texts(many, r);
            int n = halves.size();
            return i < 0 || i >= n || j < 0 || j >= n ? OUTSIDE : formOf(halves.get(i), halves.get(j));
        }

        int cell(int r, int what) {
            if (noHalves(r) || what < 0 || what > 2) {
                return OUTSIDE;
            }
            List<String> halves = texts(many, r);
            int n = halves.size();
            int[][] table = new int[n][n];
            for (int i = 0; i < n; i++) {
                for (int j = 0; j < n; j++) {
                    table[i][j] = formOf(halves.get(i), halves.get(j));
                }
            }
            return what == 0 ? n : what == 1 ? minor(table, (1 << n) - 1, (1 << n) - 1) : rank(table);
        }

        private int minor(int[][] table, int rows, int columns) {
            if (rows == 0) {
                return 1;
            }
            int row = Integer.numberOfTrailingZeros(rows);
            long sum = 0;
            int sign = 1;
            for (int c = 0; c < table.length; c++) {
                if ((columns >> c & 1) == 1) {
                    sum += (long) sign * table[row][c] * minor(table, rows & rows - 1, columns & ~(1 << c));
                    sign = -sign;
                }
            }
            return mod(sum);
        }

        private int rank(int[][] table) {
            int best = 0;
            for (int rows = 0; rows < 1 << table.length; rows++) {
                for (int columns = 0; columns < 1 << table.length; columns++) {
                    int n = Integer.bitCount(rows);
                    if (n > best && n == Integer.bitCount(columns) && minor(table, rows, columns) != 0) {
                        best = n;
                    }
                }
            }
            return best;
        }

        void copy(Model from) {
            many = from.many;
            prime = from.prime;
            loop = from.loop;
            for (int slot = 0; slot < 5; slot++) {
                sums[slot] = from.sums[slot].clone();
            }
        }

        int image(int k) {
            if (k != 0 && k != 1) {
                return OUTSIDE;
            }
            images[k] = new Model();
            images[k].copy(this);
            return 1;
        }

        int restore(int k) {
            if (k != 0 && k != 1) {
                return OUTSIDE;
            }
            if (images[k] == null) {
                return STATE;
            }
            copy(images[k]);
            return 1;
        }

        int count(int what) {
            int kept = (images[0] != null ? 1 : 0) + (images[1] != null ? 2 : 0);
            return what < 0 || what > 5 ? OUTSIDE : new int[] {many, size(), prime, loop, pad.length(), kept}[what];
        }
    }

    // ---- all of what is told of diagrams and halves

    private static LoopStrands made(int many) {
        LoopStrands x = new LoopStrands();
        x.strands(many);
        return x;
    }

    private static void everyDiagram(int many) {
        Model m = new Model();
        m.strands(many);
        String at = "MANY " + many + ": ";
        for (int d = -1; d <= m.size(); d++) {
            LoopStrands x = made(many);
            for (int i = -1; i <= 10; i++) {
                due(at + "of(" + d + ", " + i + ")", x.of(d, i), m.of(d, i));
                due(at + "joined(" + d + ", " + i + ")", x.joined(d, i), m.joined(d, i));
                due(at + "way(" + d + ", " + i + ")", x.way(d, i), m.way(d, i));
            }
            for (int e = -1; e <= m.size(); e++) {
                for (int what = -1; what <= 2; what++) {
                    due(at + "stack(" + d + ", " + e + ", " + what + ")", x.stack(d, e, what), m.stack(d, e, what));
                }
            }
        }
        for (int d = 0; d < m.size(); d++) {
            LoopStrands x = made(many);
            for (char c : shape(many).diagrams.get(d).toCharArray()) {
                x.say(c);
            }
            due(at + "diagram()", x.diagram(), d);
        }
    }

    private static void everyPrimeAndLoop(int many) {
        Model m = new Model();
        m.strands(many);
        for (int prime = 2; prime <= 101; prime++) {
            for (int loop = 0; loop < prime && m.prime(prime, loop) != OUTSIDE; loop++) {
                String at = "MANY " + many + " PRIME " + prime + " LOOP " + loop + ": ";
                LoopStrands x = made(many);
                due(at + "prime()", x.prime(prime, loop), 97);
                everyCell(x, m, at);
                LoopStrands y = made(many);
                y.prime(prime, loop);
                everyProjector(y, m, at);
            }
        }
    }

    private static void everyCell(LoopStrands x, Model m, String at) {
        for (int r = -1; r <= 6; r++) {
            for (int what = -1; what <= 3; what++) {
                due(at + "cell(" + r + ", " + what + ")", x.cell(r, what), m.cell(r, what));
            }
            for (int i = -1; i <= 5; i++) {
                for (int j = -1; j <= 5; j++) {
                    due(at + "form(" + r + ", " + i + ", " + j + ")", x.form(r, i, j), m.form(r, i, j));
                }
            }
        }
    }

    private static void everyProjector(LoopStrands x, Model m, String at) {
        for (int n = 0; n <= m.many + 1; n++) {
            due(at + "project(0, " + n + ")", x.project(0, n), m.project(0, n));
            for (int d = 0; d < m.size(); d++) {
                due(at + "at(0, " + d + ")", x.at(0, d), m.at(0, d));
            }
            due(at + "trace(0)", x.trace(0), m.trace(0));
        }
        for (int k = -1; k <= 100; k++) {
            due(at + "bracket(" + k + ")", x.bracket(k), m.bracket(k));
        }
    }

    // ---- runs of calls, always the same ones

    private static final int[] PRIMES = {2, 3, 5, 7, 11, 13, 97, 101};

    private static final class Run {
        final Random random;
        final LoopStrands x = new LoopStrands();
        final Model m = new Model();
        final String name;

        Run(int seed) {
            random = new Random(seed);
            name = "run " + seed + ": ";
        }

        /** Mostly from least to most, now and then another one. */
        int some(int least, int most) {
            if (random.nextInt(40) == 0) {
                return new int[] {least - 1, most + 1, Integer.MIN_VALUE, Integer.MAX_VALUE}[random.nextInt(4)];
            }
            return least + random.nextInt(most - least + 1);
        }

        int diagram() {
            return some(0, m.size() - 1);
        }

        int slot() {
            return some(0, 4);
        }

        int number() {
            return some(0, m.prime - 1);
        }

        int sign() {
            int kind = random.nextInt(20);
            return kind < 7 ? '(' : kind < 13 ? ')' : kind < 19 ? '1' + random.nextInt(Math.max(1, m.many - 1)) : some(33, 126);
        }

        void step(int call) {
            int a = slot(), b = slot(), c = slot(), d = diagram(), e = diagram(), v = number(), w = some(0, 2);
            String args = name + "call " + call + " with " + Arrays.toString(new int[] {a, b, c, d, e, v, w});
            switch (call) {
                case 0 -> due(args, x.strands(a + 1), m.strands(a + 1));
                case 1 -> {
                    int p = random.nextInt(9) == 0 ? some(2, 101) : PRIMES[random.nextInt(8)];
                    int l = some(0, Math.max(1, Math.min(p, 101)) - 1);
                    due(args + " prime " + p + " " + l, x.prime(p, l), m.prime(p, l));
                }
                case 2 -> due(args, x.image(w), m.image(w));
                case 3 -> due(args, x.restore(w), m.restore(w));
                case 4 -> due(args, x.wipe(), m.wipe());
                case 5 -> due(args, x.fault(w), m.fault(w));
                case 6 -> due(args, x.diagram(), m.diagram());
                case 7 -> due(args, x.word(w), m.word(w));
                case 8 -> due(args, x.of(d, a), m.of(d, a));
                case 9 -> due(args, x.joined(d, e), m.joined(d, e));
                case 10 -> due(args, x.stack(d, e, w), m.stack(d, e, w));
                case 11 -> due(args, x.way(d, a), m.way(d, a));
                case 12 -> due(args, x.at(a, d), m.at(a, d));
                case 13 -> due(args, x.times(a, b, v), m.times(a, b, v));
                case 14 -> due(args, x.turn(a, b), m.turn(a, b));
                case 15 -> due(args, x.trace(a), m.trace(a));
                case 16 -> due(args, x.project(a, b + 1), m.project(a, b + 1));
                case 17 -> due(args, x.cell(b, w), m.cell(b, w));
                case 18 -> due(args, x.form(b, a, c), m.form(b, a, c));
                case 19 -> due(args, x.bracket(v), m.bracket(v));
                case 20 -> due(args, x.count(a + 1), m.count(a + 1));
                case 21, 22, 23 -> due(args, x.both(a, b, c, w), m.both(a, b, c, w));
                case 24, 25, 26, 27 -> due(args, x.put(a, d, v), m.put(a, d, v));
                default -> {
                    int sign = sign();
                    due(args + " say " + sign, x.say(sign), m.say(sign));
                }
            }
        }

        void all(int calls) {
            for (int i = 0; i < calls; i++) {
                int call = random.nextInt(40);
                // MANY, PRIME and IMAGES stay for a while, so that SUMS come together
                step(call < 4 && random.nextInt(4) != 0 ? 21 : call);
            }
            for (int what = 0; what < 6; what++) {
                due(name + "count(" + what + ")", x.count(what), m.count(what));
            }
            for (int slot = 0; slot < 5; slot++) {
                for (int d = 0; d < m.size(); d++) {
                    due(name + "at(" + slot + ", " + d + ")", x.at(slot, d), m.at(slot, d));
                }
            }
        }
    }

    public static void main(String[] args) {
        for (int many = 1; many <= 5; many++) {
            everyDiagram(many);
            everyPrimeAndLoop(many);
        }
        for (int seed = 0; seed < 1500; seed++) {
            new Run(seed).all(250);
        }
        System.out.println(wrong == 0 ? "both tell the same" : wrong + " answers differ");
        if (wrong != 0) {
            System.exit(1);
        }
    }
}
