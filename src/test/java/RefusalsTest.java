import java.util.ArrayList;
import java.util.Arrays;
import java.util.List;

/**
 * "Calls that are refused answer the first that fits, in the order in which they are told with the call", "NONE -6
 * is told only where no refusal fits", and "What is refused changes nothing.": each call with all its arguments at
 * and beside their bounds, each with each, in objects of every MANY, with an empty, a full, a right and a wrong PAD,
 * with and without IMAGES and PROJECTORS. Of each refused call it is seen that all later calls answer as they do on
 * an object that was made alike and had no such call.
 */
public final class RefusalsTest {
    private static final int UNKNOWN = -1, OUTSIDE = -2, STATE = -3, FULL = -4, NONE = -6, FAULT = -7, TAKEN = 0;
    private static final int LOW = Integer.MIN_VALUE, HIGH = Integer.MAX_VALUE;
    private static final int[] DIAGRAMS = {0, 1, 2, 5, 14, 42};
    private static final int[][] HALVES =
            {{}, {0, 1}, {1, 0, 1}, {0, 2, 0, 1}, {2, 0, 3, 0, 1}, {0, 5, 0, 4, 0, 1}};
    private static final List<Integer> PRIMES = List.of(2, 3, 5, 7, 11, 13, 17, 19, 23, 29, 31, 37, 41, 43, 47, 53,
            59, 61, 67, 71, 73, 79, 83, 89, 97, 101);

    private static int wrong = 0;

    private static void tell(String what) {
        wrong++;
        if (wrong < 50) {
            System.out.println(what);
        }
    }

    // ---- objects in which things are refused

    /** What is refused in an object hangs on no more than this. */
    private record Made(int many, int prime, int loop, String pad, boolean isDiagram, boolean isWord, int images,
            int mostOfProjector) {
        LoopStrands make() {
            LoopStrands x = new LoopStrands();
            if ((images & 1) != 0) {
                x.strands(2);
                x.prime(5, 3);
                fill(x, 2, 5);
                x.image(0);
            }
            if ((images & 2) != 0) {
                x.strands(1);
                x.prime(3, 1);
                fill(x, 1, 3);
                x.image(1);
            }
            x.strands(many);
            x.prime(prime, loop);
            fill(x, DIAGRAMS[many], prime);
            for (char sign : pad.toCharArray()) {
                x.say(sign);
            }
            return x;
        }

        private static void fill(LoopStrands x, int diagrams, int prime) {
            for (int slot = 0; slot < 5; slot++) {
                x.put(slot, slot % diagrams, prime - 1 - slot % 2);
                x.put(slot, diagrams - 1, 1);
            }
        }

        boolean noDiagram(int v) {
            return v < 0 || v >= DIAGRAMS[many];
        }

        boolean noPoint(int v) {
            return v < 0 || v >= 2 * many;
        }

        boolean noNumber(int v) {
            return v < 0 || v >= prime;
        }

        boolean noHalves(int r) {
            return r < 0 || r > many || HALVES[many][r] == 0;
        }

        boolean noHalf(int r, int i) {
            return i < 0 || i >= HALVES[many][r];
        }

        boolean isKept(int k) {
            return (images >> k & 1) == 1;
        }
    }

    private static final String FULL_WORD = "121212121212121212121212";
    private static final List<Made> OBJECTS = List.of(
            new Made(3, 97, 2, "", false, true, 0, 3),
            new Made(3, 7, 6, "(()())", true, false, 1, 2),
            new Made(3, 101, 0, FULL_WORD, false, true, 2, 1),
            new Made(3, 2, 1, "(()())(()())(()())(()())", false, false, 3, 2),
            new Made(1, 2, 0, "", false, true, 3, 1),
            new Made(1, 97, 96, "()", true, false, 0, 1),
            new Made(2, 3, 0, "111", false, true, 1, 1),
            new Made(2, 3, 2, "(())", true, false, 2, 2),
            new Made(4, 5, 1, "(()(()))x", false, false, 3, 2),
            new Made(4, 101, 2, "123", false, true, 0, 4),
            new Made(5, 5, 2, "()()()()()", true, false, 1, 4),
            new Made(5, 101, 100, "4321", false, true, 2, 2),
            new Made(5, 97, 2, "((((((", false, false, 3, 5));

    private static boolean noSlot(int v) {
        return v < 0 || v > 4;
    }

    // ---- calls, with what the document refuses

    private interface Call {
        int on(LoopStrands x, int[] a);
    }

    private interface Due {
        int of(Made m, int[] a);
    }

    private record Row(String name, Call call, Due due, int[][] arguments) {
    }

    private static final List<Row> ROWS = new ArrayList<>();
    private static Made now;

    private static void row(String name, Call call, Due due, int[]... arguments) {
        ROWS.add(new Row(name, call, due, arguments));
    }

    /** The last that are taken and the first that are not, on both sides, and those farthest off. */
    private static int[] edges(int least, int most) {
        return new int[] {LOW, least - 1, least, most, most + 1, HIGH};
    }

    private static int outsideOf(int least, int most, int v) {
        return v < least || v > most ? OUTSIDE : TAKEN;
    }

    private static void rowsOfDiagrams() {
        int[] diagrams = edges(0, DIAGRAMS[now.many] - 1);
        row("strands", (x, a) -> x.strands(a[0]), (m, a) -> outsideOf(1, 5, a[0]), edges(1, 5));
        row("say", (x, a) -> x.say(a[0]),
                (m, a) -> a[0] < 33 || a[0] > 126 ? OUTSIDE : m.pad.length() == 24 ? FULL : TAKEN, edges(33, 126));
        row("wipe", (x, a) -> x.wipe(), (m, a) -> TAKEN);
        row("fault", (x, a) -> x.fault(a[0]), (m, a) -> outsideOf(0, 1, a[0]), edges(0, 1));
        row("diagram", (x, a) -> x.diagram(), (m, a) -> m.isDiagram ? TAKEN : FAULT);
        row("word", (x, a) -> x.word(a[0]),
                (m, a) -> a[0] < 0 || a[0] > 1 ? OUTSIDE : m.isWord ? TAKEN : FAULT, edges(0, 1));
        row("of", (x, a) -> x.of(a[0], a[1]),
                (m, a) -> m.noDiagram(a[0]) ? UNKNOWN : outsideOf(0, 3, a[1]), diagrams, edges(0, 3));
        row("joined", (x, a) -> x.joined(a[0], a[1]),
                (m, a) -> m.noDiagram(a[0]) || m.noPoint(a[1]) ? UNKNOWN : TAKEN, diagrams, edges(0, 2 * now.many - 1));
        row("stack", (x, a) -> x.stack(a[0], a[1], a[2]),
                (m, a) -> m.noDiagram(a[0]) || m.noDiagram(a[1]) ? UNKNOWN : outsideOf(0, 1, a[2]),
                diagrams, diagrams, edges(0, 1));
        row("way", (x, a) -> x.way(a[0], a[1]), (m, a) -> m.noDiagram(a[0]) ? UNKNOWN : TAKEN, diagrams, edges(0, 6));
    }

    private static void rowsOfSums() {
        int[] diagrams = edges(0, DIAGRAMS[now.many] - 1);
        int[] slots = edges(0, 4);
        int[] numbers = edges(0, now.prime - 1);
        row("prime", (x, a) -> x.prime(a[0], a[1]),
                (m, a) -> PRIMES.contains(a[0]) ? outsideOf(0, a[0] - 1, a[1]) : OUTSIDE,
                new int[] {LOW, -2, -1, 0, 1, 2, 3, 4, 5, 25, 49, 91, 97, 99, 100, 101, 102, 103, HIGH},
                new int[] {LOW, -1, 0, 1, 2, 3, 4, 5, 96, 97, 100, 101, HIGH});
        row("put", (x, a) -> x.put(a[0], a[1], a[2]),
                (m, a) -> noSlot(a[0]) || m.noDiagram(a[1]) ? UNKNOWN : m.noNumber(a[2]) ? OUTSIDE : TAKEN,
                slots, diagrams, numbers);
        row("at", (x, a) -> x.at(a[0], a[1]),
                (m, a) -> noSlot(a[0]) || m.noDiagram(a[1]) ? UNKNOWN : TAKEN, slots, diagrams);
        row("both", (x, a) -> x.both(a[0], a[1], a[2], a[3]),
                (m, a) -> noSlot(a[0]) || noSlot(a[1]) || noSlot(a[2]) ? UNKNOWN : outsideOf(0, 2, a[3]),
                slots, slots, slots, edges(0, 2));
        row("times", (x, a) -> x.times(a[0], a[1], a[2]),
                (m, a) -> noSlot(a[0]) || noSlot(a[1]) ? UNKNOWN : m.noNumber(a[2]) ? OUTSIDE : TAKEN,
                slots, slots, numbers);
        row("turn", (x, a) -> x.turn(a[0], a[1]),
                (m, a) -> noSlot(a[0]) || noSlot(a[1]) ? UNKNOWN : TAKEN, slots, slots);
        row("trace", (x, a) -> x.trace(a[0]), (m, a) -> noSlot(a[0]) ? UNKNOWN : TAKEN, slots);
        row("bracket", (x, a) -> x.bracket(a[0]), (m, a) -> outsideOf(0, 99, a[0]), edges(0, 99));
        row("project", (x, a) -> x.project(a[0], a[1]),
                (m, a) -> noSlot(a[0]) ? UNKNOWN
                        : a[1] < 1 || a[1] > m.many ? OUTSIDE : a[1] > m.mostOfProjector ? STATE : TAKEN,
                slots, new int[] {LOW, -1, 0, 1, 2, 3, 4, 5, 6, HIGH});
    }

    private static void rowsOfHalvesAndImages() {
        int[] rs = {LOW, -3, -2, -1, 0, 1, 2, 3, 4, 5, 6, 7, HIGH};
        int[] places = {LOW, -1, 0, 1, 2, 3, 4, 5, HIGH};
        row("cell", (x, a) -> x.cell(a[0], a[1]),
                (m, a) -> m.noHalves(a[0]) ? OUTSIDE : outsideOf(0, 2, a[1]), rs, edges(0, 2));
        row("form", (x, a) -> x.form(a[0], a[1], a[2]),
                (m, a) -> m.noHalves(a[0]) || m.noHalf(a[0], a[1]) || m.noHalf(a[0], a[2]) ? OUTSIDE : TAKEN,
                rs, places, places);
        row("image", (x, a) -> x.image(a[0]), (m, a) -> outsideOf(0, 1, a[0]), edges(0, 1));
        row("restore", (x, a) -> x.restore(a[0]),
                (m, a) -> a[0] < 0 || a[0] > 1 ? OUTSIDE : m.isKept(a[0]) ? TAKEN : STATE, edges(0, 1));
        row("count", (x, a) -> x.count(a[0]), (m, a) -> outsideOf(0, 5, a[0]), edges(0, 5));
    }

    // ---- what later calls show

    private static void lookAtNumbers(LoopStrands x, List<Integer> seen) {
        for (int what = 0; what <= 5; what++) {
            seen.add(x.count(what));
        }
        int diagrams = x.count(1);
        for (int slot = 0; slot < 5; slot++) {
            for (int d = 0; d < diagrams; d++) {
                seen.add(x.at(slot, d));
            }
        }
        seen.add(x.bracket(7));
        seen.add(x.trace(4));
    }

    /** THE PAD as each MANY reads it, then its text, and how many signs there is room for. */
    private static void lookAtPad(LoopStrands x, List<Integer> seen) {
        for (int many = 1; many <= 5; many++) {
            x.strands(many);
            seen.add(x.fault(0));
            seen.add(x.fault(1));
            seen.add(x.word(0));
            seen.add(x.word(1));
        }
        for (int many = 1; many <= 5; many++) {
            x.strands(many);
            seen.add(x.diagram());
        }
        seen.add(x.say('1'));
        seen.add(x.wipe());
    }

    /** Some 300 calls at most, so that an object stays below its 512. */
    private static List<Integer> look(LoopStrands x) {
        List<Integer> seen = new ArrayList<>();
        lookAtNumbers(x, seen);
        for (int k = 0; k <= 1; k++) {
            int answer = x.restore(k);
            seen.add(answer);
            if (answer == 1) {
                lookAtNumbers(x, seen);
            }
        }
        lookAtPad(x, seen);
        return seen;
    }

    // ---- all arguments, each with each

    private static void tryArguments(Row row, int[] a, int place, List<Integer> unchanged) {
        if (place < a.length) {
            for (int v : row.arguments[place]) {
                a[place] = v;
                tryArguments(row, a, place + 1, unchanged);
            }
            return;
        }
        LoopStrands x = now.make();
        int due = row.due.of(now, a);
        int got = row.call.on(x, a);
        String call = now + ": " + row.name + Arrays.toString(a) + " answered " + got;
        boolean mayBeNone = row.name.equals("way") || row.name.equals("fault");
        if (due != TAKEN && got != due) {
            tell(call + ", due is " + due);
        } else if (due == TAKEN && got < 0 && !(mayBeNone && got == NONE)) {
            tell(call + ", but nothing that is refused fits");
        } else if (due != TAKEN && !look(x).equals(unchanged)) {
            tell(call + ", but it changed something");
        }
    }

    /** Without it, a look that shows nothing would find nothing changed. */
    private static void lookShowsWhatIsTaken(List<Integer> unchanged) {
        int fresh = now.many == 5 ? 1 : 5;
        List<Call> changing = List.of(
                (x, a) -> x.strands(now.many), (x, a) -> x.strands(fresh), (x, a) -> x.prime(now.prime, now.loop),
                (x, a) -> now.pad.isEmpty() ? x.say('x') : x.wipe(), (x, a) -> x.put(4, 0, x.at(4, 0) == 0 ? 1 : 0),
                (x, a) -> x.image(0), (x, a) -> x.image(1), (x, a) -> x.times(0, 0, 0));
        for (int i = 0; i < changing.size(); i++) {
            LoopStrands x = now.make();
            changing.get(i).on(x, new int[0]);
            if (look(x).equals(unchanged)) {
                tell(now + ": changing call " + i + " is not seen");
            }
        }
    }

    public static void main(String[] args) {
        for (Made made : OBJECTS) {
            now = made;
            ROWS.clear();
            rowsOfDiagrams();
            rowsOfSums();
            rowsOfHalvesAndImages();
            List<Integer> unchanged = look(now.make());
            lookShowsWhatIsTaken(unchanged);
            for (Row row : ROWS) {
                tryArguments(row, new int[row.arguments.length], 0, unchanged);
            }
        }
        System.out.println(wrong == 0 ? "all refusals are as due" : wrong + " calls are not as due");
        if (wrong != 0) {
            System.exit(1);
        }
    }
}
