import java.lang.reflect.Constructor;
import java.lang.reflect.Method;
import java.lang.reflect.Modifier;
import java.util.TreeSet;

/** Promise by promise: ordinary inputs, the edges that the document names, and wrong inputs. */
public final class PromisesTest {
    private static final int UNKNOWN = -1, OUTSIDE = -2, STATE = -3, FULL = -4, NONE = -6, FAULT = -7;
    private static final int LOW = Integer.MIN_VALUE, HIGH = Integer.MAX_VALUE;

    private static int wrong = 0;
    private static int promise = 0;

    private static void due(String call, int got, int want) {
        if (got != want) {
            wrong++;
            System.out.println("promise " + promise + ": " + call + " answered " + got + ", due is " + want);
        }
    }

    private static void say(LoopStrands x, String signs) {
        for (int i = 0; i < signs.length(); i++) {
            x.say(signs.charAt(i));
        }
    }

    /** THE PAD is told anew. */
    private static LoopStrands told(LoopStrands x, String signs) {
        x.wipe();
        say(x, signs);
        return x;
    }

    private static LoopStrands of(int many) {
        LoopStrands x = new LoopStrands();
        x.strands(many);
        return x;
    }

    private static void fillSlots(LoopStrands x) {
        for (int slot = 0; slot < 5; slot++) {
            x.put(slot, 0, 1);
        }
    }

    private static void slotsHold(LoopStrands x, int want) {
        for (int slot = 0; slot < 5; slot++) {
            due("at(" + slot + ", 0)", x.at(slot, 0), want);
        }
    }

    private static void newObject() {
        promise = 1;
        LoopStrands x = new LoopStrands();
        int[] want = {3, 5, 97, 2, 0, 0};
        for (int what = 0; what < 6; what++) {
            due("count(" + what + ")", x.count(what), want[what]);
        }
        for (int slot = 0; slot < 5; slot++) {
            for (int d = 0; d < 5; d++) {
                due("at(" + slot + ", " + d + ")", x.at(slot, d), 0);
            }
        }
        due("restore(0)", x.restore(0), STATE);
        due("restore(1)", x.restore(1), STATE);
        due("wipe()", x.wipe(), 0);
    }

    private static void strands() {
        promise = 2;
        LoopStrands x = new LoopStrands();
        int[] diagrams = {0, 1, 2, 5, 14, 42};
        for (int many = 1; many <= 5; many++) {
            due("strands(" + many + ")", x.strands(many), diagrams[many]);
            due("count(0)", x.count(0), many);
        }
        for (int v : new int[] {0, 6, -1, LOW, HIGH}) {
            fillSlots(x);
            due("strands(" + v + ")", x.strands(v), OUTSIDE);
            due("count(0)", x.count(0), 5);
            slotsHold(x, 1);
        }
        due("strands(5)", x.strands(5), 42);
        slotsHold(x, 0);
        x.prime(7, 3);
        say(x, "12");
        x.strands(2);
        due("count(2)", x.count(2), 7);
        due("count(3)", x.count(3), 3);
        due("count(4)", x.count(4), 2);
    }

    private static void say() {
        promise = 3;
        LoopStrands x = new LoopStrands();
        for (int sign : new int[] {32, 127, 0, -1, LOW, HIGH}) {
            due("say(" + sign + ")", x.say(sign), OUTSIDE);
        }
        due("count(4)", x.count(4), 0);
        due("say(33)", x.say(33), 1);
        due("say(126)", x.say(126), 2);
        for (int i = 3; i <= 24; i++) {
            due("say(49)", x.say(49), i);
        }
        due("say(49)", x.say(49), FULL);
        due("say(32)", x.say(32), OUTSIDE);
        due("count(4)", x.count(4), 24);
    }

    private static void wipe() {
        promise = 4;
        LoopStrands x = new LoopStrands();
        due("wipe()", x.wipe(), 0);
        say(x, "(()x");
        due("wipe()", x.wipe(), 4);
        due("wipe()", x.wipe(), 0);
        due("fault(0)", x.fault(0), 0);
        for (int i = 0; i < 30; i++) {
            x.say(40);
        }
        due("wipe()", x.wipe(), 24);
        due("say(40)", x.say(40), 1);
    }

    private static void fault() {
        promise = 5;
        LoopStrands x = new LoopStrands();
        due("fault(-1)", x.fault(-1), OUTSIDE);
        due("fault(2)", x.fault(2), OUTSIDE);
        due("empty, fault(0)", x.fault(0), 0);
        due("empty, fault(1)", x.fault(1), NONE);
        String[] texts = {"((()))", "()()()", "((())", "(((", "((((", ")", "())", "()()()(", "()()())", "(x", "x", "((()))x"};
        int[] faults = {NONE, NONE, 5, 3, 3, 0, 2, 6, 6, 1, 0, 6};
        for (int i = 0; i < texts.length; i++) {
            due(texts[i] + " fault(0)", told(x, texts[i]).fault(0), faults[i]);
        }
        String[] words = {"1", "2", "0", "3", "121212", "1213", "1(", "(", ":", "/"};
        int[] wordFaults = {NONE, NONE, 0, 0, NONE, 3, 1, 0, 0, 0};
        for (int i = 0; i < words.length; i++) {
            due(words[i] + " fault(1)", told(x, words[i]).fault(1), wordFaults[i]);
        }
        told(x, "123454321");
        int[] byMany = {0, 0, 1, 2, 3, 4};
        for (int many = 1; many <= 5; many++) {
            x.strands(many);
            due("MANY " + many + " fault(1)", x.fault(1), many == 1 ? 0 : byMany[many]);
        }
        told(x, "()()()");
        int[] texted = {0, 2, 4, NONE, 6, 6};
        for (int many = 1; many <= 5; many++) {
            x.strands(many);
            due("MANY " + many + " fault(0)", x.fault(0), texted[many]);
        }
        due("count(4)", x.count(4), 6);
    }

    private static void diagram() {
        promise = 6;
        LoopStrands x = new LoopStrands();
        String[] texts = {"((()))", "(()())", "(())()", "()(())", "()()()"};
        for (int d = 0; d < texts.length; d++) {
            due(texts[d] + " diagram()", told(x, texts[d]).diagram(), d);
            due("count(4)", x.count(4), 0);
        }
        due("empty, diagram()", x.diagram(), FAULT);
        for (String text : new String[] {"((())", "())", "((()))(", "121212"}) {
            due(text + " diagram()", told(x, text).diagram(), FAULT);
            due("count(4)", x.count(4), text.length());
        }
        due("MANY 1", told(of(1), "()").diagram(), 0);
        due("MANY 5, last", told(of(5), "()()()()()").diagram(), 41);
        due("MANY 4, last but one", told(of(4), "()()(())").diagram(), 12);
    }

    private static void word() {
        promise = 7;
        LoopStrands x = new LoopStrands();
        due("empty, word(0)", x.word(0), 0);
        due("empty, word(1)", x.word(1), 0);
        String[] words = {"1", "2", "12", "21", "121", "212", "11", "1112", "22122"};
        int[] made = {4, 1, 3, 2, 4, 1, 4, 3, 1};
        int[] loops = {0, 0, 0, 0, 0, 0, 1, 2, 2};
        for (int i = 0; i < words.length; i++) {
            told(x, words[i]);
            due(words[i] + " word(0)", x.word(0), made[i]);
            due(words[i] + " word(1)", x.word(1), loops[i]);
            due("count(4)", x.count(4), words[i].length());
        }
        told(x, "111111111111111111111111");
        due("24 times 1, word(1)", x.word(1), 23);
        told(x, "13");
        due("13 word(0)", x.word(0), FAULT);
        due("13 word(1)", x.word(1), FAULT);
        due("13 word(2)", x.word(2), OUTSIDE);
        due("13 word(-1)", x.word(-1), OUTSIDE);
        x.strands(4);
        due("MANY 4, 13 word(0)", x.word(0), 13);
        due("MANY 1, empty", told(of(1), "").word(0), 0);
        due("MANY 1, 1", told(of(1), "1").word(0), FAULT);
    }

    private static void ofDiagram() {
        promise = 8;
        LoopStrands x = of(4);
        // ()((())) joins 0 to 1 and 4 to 5 below 3 and 2: it is HOOKS 1, 2 and 3, one below the other
        int d = told(x, "()((()))").diagram();
        due("THROUGH", x.of(d, 0), 2);
        due("CLOSED", x.of(d, 1), 1);
        due("TURNED", x.of(d, 2), told(x, "((()))()").diagram());
        due("WAY", x.of(d, 3), 3);
        due("ONE THROUGH", x.of(0, 0), 4);
        due("ONE CLOSED", x.of(0, 1), 4);
        due("last THROUGH", x.of(13, 0), 0);
        due("last CLOSED", x.of(13, 1), 4 - 2);
        for (int bad : new int[] {-1, 14, LOW, HIGH}) {
            due("of(" + bad + ", 0)", x.of(bad, 0), UNKNOWN);
            due("of(" + bad + ", 9)", x.of(bad, 9), UNKNOWN);
        }
        for (int bad : new int[] {-1, 4, LOW, HIGH}) {
            due("of(0, " + bad + ")", x.of(0, bad), OUTSIDE);
        }
        LoopStrands y = of(5);
        int longest = 0;
        for (int i = 0; i < 42; i++) {
            longest = Math.max(longest, y.of(i, 3));
        }
        due("longest WAY of MANY 5", longest, 6);
        due("MANY 1 CLOSED", of(1).of(0, 1), 1);
        due("MANY 1 WAY", of(1).of(0, 3), 0);
    }

    private static void joined() {
        promise = 9;
        LoopStrands x = new LoopStrands();
        int[] want = {5, 2, 1, 4, 3, 0};
        for (int p = 0; p < 6; p++) {
            due("joined(0, " + p + ")", x.joined(0, p), 5 - p);
            due("joined(1, " + p + ")", x.joined(1, p), want[p]);
        }
        for (int bad : new int[] {-1, 6, LOW, HIGH}) {
            due("joined(0, " + bad + ")", x.joined(0, bad), UNKNOWN);
            due("joined(" + bad + ", 0)", x.joined(bad, 0), UNKNOWN);
        }
        x.strands(1);
        due("joined(0, 1)", x.joined(0, 1), 0);
        due("joined(0, 2)", x.joined(0, 2), UNKNOWN);
        x.strands(5);
        due("joined(41, 9)", x.joined(41, 9), 8);
        due("joined(41, 10)", x.joined(41, 10), UNKNOWN);
    }

    private static void stack() {
        promise = 10;
        LoopStrands x = new LoopStrands();
        int[][] made = {{0, 1, 2, 3, 4}, {1, 1, 2, 1, 2}, {2, 1, 2, 1, 2}, {3, 3, 4, 3, 4}, {4, 3, 4, 3, 4}};
        int[][] loops = {{0, 0, 0, 0, 0}, {0, 1, 1, 0, 0}, {0, 0, 0, 1, 1}, {0, 1, 1, 0, 0}, {0, 0, 0, 1, 1}};
        for (int a = 0; a < 5; a++) {
            for (int b = 0; b < 5; b++) {
                due("stack(" + a + ", " + b + ", 0)", x.stack(a, b, 0), made[a][b]);
                due("stack(" + a + ", " + b + ", 1)", x.stack(a, b, 1), loops[a][b]);
            }
        }
        for (int bad : new int[] {-1, 5, LOW, HIGH}) {
            due("stack(" + bad + ", 0, 0)", x.stack(bad, 0, 0), UNKNOWN);
            due("stack(0, " + bad + ", 0)", x.stack(0, bad, 0), UNKNOWN);
            due("stack(0, " + bad + ", 7)", x.stack(0, bad, 7), UNKNOWN);
            due("stack(0, 0, " + bad + ")", x.stack(0, 0, bad), OUTSIDE);
        }
    }

    private static void way() {
        promise = 11;
        LoopStrands x = of(4);
        // HOOKS 1 and 3 in either order make the last one; 13 comes ahead of 31
        due("way(13, 0)", x.way(13, 0), 1);
        due("way(13, 1)", x.way(13, 1), 3);
        due("way(13, 2)", x.way(13, 2), NONE);
        for (int bad : new int[] {-1, 6, LOW, HIGH}) {
            due("way(13, " + bad + ")", x.way(13, bad), NONE);
            due("way(0, " + bad + ")", x.way(0, bad), NONE);
            due("way(14, " + bad + ")", x.way(14, bad), UNKNOWN);
        }
        due("way(0, 0)", x.way(0, 0), NONE);
        due("way(-1, 0)", x.way(-1, 0), UNKNOWN);
        due("MANY 1 way(0, 0)", of(1).way(0, 0), NONE);
        due("MANY 1 way(1, 0)", of(1).way(1, 0), UNKNOWN);
    }

    private static void prime() {
        promise = 12;
        LoopStrands x = new LoopStrands();
        int was = 97;
        int primes = 0;
        for (int p = -3; p <= 110; p++) {
            boolean is = p >= 2 && p <= 101 && java.math.BigInteger.valueOf(p).isProbablePrime(30);
            due("prime(" + p + ", 1)", x.prime(p, 1), is ? was : OUTSIDE);
            was = is ? p : was;
            primes += is ? 1 : 0;
        }
        due("primes", primes, 26);
        fillSlots(x);
        for (int bad : new int[] {-1, 7, LOW, HIGH}) {
            due("prime(7, " + bad + ")", x.prime(7, bad), OUTSIDE);
        }
        due("prime(HIGH, 0)", x.prime(HIGH, 0), OUTSIDE);
        due("prime(LOW, 0)", x.prime(LOW, 0), OUTSIDE);
        due("count(2)", x.count(2), 101);
        due("count(3)", x.count(3), 1);
        slotsHold(x, 1);
        due("prime(101, 1)", x.prime(101, 1), 101);
        slotsHold(x, 0);
        due("prime(7, 6)", x.prime(7, 6), 101);
        due("prime(2, 0)", x.prime(2, 0), 7);
        due("count(3)", x.count(3), 0);
        due("count(0)", x.count(0), 3);
    }

    private static void putAndAt() {
        promise = 13;
        LoopStrands x = new LoopStrands();
        due("put(4, 4, 96)", x.put(4, 4, 96), 0);
        due("put(4, 4, 0)", x.put(4, 4, 0), 96);
        due("put(4, 4, 5)", x.put(4, 4, 5), 0);
        for (int bad : new int[] {-1, 5, LOW, HIGH}) {
            due("put(" + bad + ", 0, 1)", x.put(bad, 0, 1), UNKNOWN);
            due("put(0, " + bad + ", 1)", x.put(0, bad, 1), UNKNOWN);
            due("put(0, " + bad + ", 97)", x.put(0, bad, 97), UNKNOWN);
        }
        for (int bad : new int[] {-1, 97, LOW, HIGH}) {
            due("put(4, 4, " + bad + ")", x.put(4, 4, bad), OUTSIDE);
        }
        promise = 14;
        due("at(4, 4)", x.at(4, 4), 5);
        due("at(4, 3)", x.at(4, 3), 0);
        due("at(3, 4)", x.at(3, 4), 0);
        for (int bad : new int[] {-1, 5, LOW, HIGH}) {
            due("at(" + bad + ", 0)", x.at(bad, 0), UNKNOWN);
            due("at(0, " + bad + ")", x.at(0, bad), UNKNOWN);
        }
        x.strands(5);
        due("at(0, 41)", x.at(0, 41), 0);
        due("at(0, 42)", x.at(0, 42), UNKNOWN);
    }

    private static void both() {
        promise = 15;
        LoopStrands x = new LoopStrands();
        x.prime(7, 3);
        x.put(0, 1, 5);
        x.put(0, 4, 2);
        x.put(1, 1, 2);
        x.put(1, 2, 6);
        due("both(2, 0, 1, 0)", x.both(2, 0, 1, 0), 2);
        due("at(2, 1)", x.at(2, 1), 0);
        due("at(2, 2)", x.at(2, 2), 6);
        due("at(2, 4)", x.at(2, 4), 2);
        due("both(2, 1, 0, 1)", x.both(2, 1, 0, 1), 3);
        due("at(2, 1)", x.at(2, 1), 4);
        due("at(2, 4)", x.at(2, 4), 5);
        // 1 on 1 is 1 with a LOOP, 1 on 2 is 2 with a LOOP, 4 on 1 is 3, 4 on 2 is 4
        due("both(0, 0, 1, 2)", x.both(0, 0, 1, 2), 4);
        due("at(0, 1)", x.at(0, 1), 5 * 2 * 3 % 7);
        due("at(0, 2)", x.at(0, 2), 5 * 6 * 3 % 7);
        due("at(0, 3)", x.at(0, 3), 2 * 2 % 7);
        due("at(0, 4)", x.at(0, 4), 2 * 6 % 7);
        due("both(1, 1, 1, 1)", x.both(1, 1, 1, 1), 0);
        int before = x.at(0, 1);
        for (int bad : new int[] {-1, 5, LOW, HIGH}) {
            due("both(" + bad + ", 0, 0, 0)", x.both(bad, 0, 0, 0), UNKNOWN);
            due("both(0, " + bad + ", 0, 0)", x.both(0, bad, 0, 0), UNKNOWN);
            due("both(0, 0, " + bad + ", 9)", x.both(0, 0, bad, 9), UNKNOWN);
            due("both(0, 0, 0, " + bad + ")", x.both(0, 0, 0, bad), OUTSIDE);
        }
        due("both(0, 0, 0, 3)", x.both(0, 0, 0, 3), OUTSIDE);
        due("at(0, 1)", x.at(0, 1), before);
    }

    private static void times() {
        promise = 16;
        LoopStrands x = new LoopStrands();
        x.prime(7, 3);
        x.put(0, 1, 5);
        x.put(0, 4, 2);
        due("times(1, 0, 6)", x.times(1, 0, 6), 2);
        due("at(1, 1)", x.at(1, 1), 2);
        due("at(1, 4)", x.at(1, 4), 5);
        due("times(0, 0, 3)", x.times(0, 0, 3), 2);
        due("at(0, 1)", x.at(0, 1), 1);
        for (int bad : new int[] {-1, 7, LOW, HIGH}) {
            due("times(1, 0, " + bad + ")", x.times(1, 0, bad), OUTSIDE);
            due("times(" + bad + ", 0, 9)", x.times(bad, 0, 9), UNKNOWN);
            due("times(0, " + bad + ", 9)", x.times(0, bad, 9), UNKNOWN);
        }
        due("at(1, 1)", x.at(1, 1), 2);
        due("times(1, 0, 0)", x.times(1, 0, 0), 0);
        due("at(0, 1)", x.at(0, 1), 1);
    }

    private static void turn() {
        promise = 17;
        LoopStrands x = new LoopStrands();
        for (int d = 0; d < 5; d++) {
            x.put(0, d, d + 1);
        }
        x.put(0, 0, 0);
        due("turn(1, 0)", x.turn(1, 0), 4);
        int[] want = {0, 2, 4, 3, 5};
        for (int d = 0; d < 5; d++) {
            due("at(1, " + d + ")", x.at(1, d), want[d]);
        }
        due("turn(1, 1)", x.turn(1, 1), 4);
        due("at(1, 2)", x.at(1, 2), 3);
        for (int bad : new int[] {-1, 5, LOW, HIGH}) {
            due("turn(" + bad + ", 0)", x.turn(bad, 0), UNKNOWN);
            due("turn(0, " + bad + ")", x.turn(0, bad), UNKNOWN);
        }
    }

    private static void trace() {
        promise = 18;
        LoopStrands x = new LoopStrands();
        x.prime(101, 3);
        x.put(0, 0, 2);
        due("trace(0)", x.trace(0), 54);
        x.put(0, 1, 10);
        due("trace(0)", x.trace(0), (54 + 90) % 101);
        x.put(0, 2, 5);
        due("trace(0)", x.trace(0), (54 + 90 + 15) % 101);
        due("trace(1)", x.trace(1), 0);
        for (int bad : new int[] {-1, 5, LOW, HIGH}) {
            due("trace(" + bad + ")", x.trace(bad), UNKNOWN);
        }
        LoopStrands y = of(5);
        y.put(0, 0, 1);
        due("trace of ONE of 5", y.trace(0), 32);
    }

    private static void bracket() {
        promise = 19;
        LoopStrands x = new LoopStrands();
        for (int k = 0; k <= 99; k++) {
            due("bracket(" + k + ")", x.bracket(k), k % 97);
        }
        x.prime(7, 3);
        int[] want = {0, 1, 3, 1, 0, 6, 4, 6, 0, 1};
        for (int k = 0; k < want.length; k++) {
            due("LOOP 3 by 7, bracket(" + k + ")", x.bracket(k), want[k]);
        }
        x.prime(2, 0);
        due("bracket(1)", x.bracket(1), 1);
        due("bracket(2)", x.bracket(2), 0);
        due("bracket(3)", x.bracket(3), 1);
        for (int bad : new int[] {-1, 100, LOW, HIGH}) {
            due("bracket(" + bad + ")", x.bracket(bad), OUTSIDE);
        }
    }

    private static void project() {
        promise = 20;
        LoopStrands x = of(4);
        x.put(0, 3, 9);
        due("project(0, 1)", x.project(0, 1), 1);
        due("at(0, 0)", x.at(0, 0), 1);
        due("at(0, 3)", x.at(0, 3), 0);
        due("project(0, 4)", x.project(0, 4), 14);
        for (int hook = 1; hook < 4; hook++) {
            int d = told(x, "" + hook).word(0);
            x.times(1, 1, 0);
            x.put(1, d, 1);
            due("HOOK " + hook + " on it", x.both(2, 1, 0, 2), 0);
            due("it on HOOK " + hook, x.both(2, 0, 1, 2), 0);
        }
        for (int bad : new int[] {0, 5, LOW, HIGH}) {
            due("project(0, " + bad + ")", x.project(0, bad), OUTSIDE);
            due("project(-1, " + bad + ")", x.project(-1, bad), UNKNOWN);
            due("project(5, " + bad + ")", x.project(5, bad), UNKNOWN);
        }
        // by 7 with LOOP 3 BRACKET of 4 is the first that is 0
        x.prime(7, 3);
        due("project(0, 3)", x.project(0, 3), 5);
        int kept = x.at(0, 0);
        due("project(0, 4)", x.project(0, 4), STATE);
        due("at(0, 0)", x.at(0, 0), kept);
        x.strands(5);
        due("project(0, 5)", x.project(0, 5), STATE);
        due("project(0, 6)", x.project(0, 6), OUTSIDE);
        x.prime(2, 0);
        due("project(0, 1)", x.project(0, 1), 1);
        due("project(0, 3)", x.project(0, 3), STATE);
    }

    private static void cell() {
        promise = 21;
        int[][] halves = {{}, {-2, 1}, {1, -2, 1}, {-2, 2, -2, 1}, {2, -2, 3, -2, 1}, {-2, 5, -2, 4, -2, 1}};
        for (int many = 1; many <= 5; many++) {
            LoopStrands x = of(many);
            for (int r = 0; r <= many; r++) {
                due("MANY " + many + " cell(" + r + ", 0)", x.cell(r, 0), halves[many][r]);
                due("MANY " + many + " cell(" + r + ", 3)", x.cell(r, 3), OUTSIDE);
                due("MANY " + many + " cell(" + r + ", -1)", x.cell(r, -1), OUTSIDE);
            }
            for (int bad : new int[] {-1, -2, many + 1, many + 2, LOW, HIGH}) {
                due("MANY " + many + " cell(" + bad + ", 0)", x.cell(bad, 0), OUTSIDE);
            }
        }
        LoopStrands x = new LoopStrands();
        x.prime(101, 5);
        due("cell(1, 1)", x.cell(1, 1), 24);
        due("cell(1, 2)", x.cell(1, 2), 2);
        x.prime(3, 0);
        due("LOOP 0 cell(1, 1)", x.cell(1, 1), 2);
        due("LOOP 0 cell(1, 2)", x.cell(1, 2), 2);
        x.strands(2);
        due("LOOP 0 cell(0, 1)", x.cell(0, 1), 0);
        due("LOOP 0 cell(0, 2)", x.cell(0, 2), 0);
        due("LOOP 0 cell(2, 1)", x.cell(2, 1), 1);
        LoopStrands y = of(5);
        y.prime(101, 2);
        // the TABLE of r = 3 has LOOP in its diagonal and 1 beside it: its DETERMINANT is BRACKET of 5
        due("cell(3, 1)", y.cell(3, 1), 5);
        due("cell(3, 2)", y.cell(3, 2), 4);
    }

    private static void form() {
        promise = 22;
        LoopStrands x = of(5);
        // (())|, ()()|, ()|(), |(()), |()()
        x.prime(101, 10);
        int[][] want = {
            {100, 10, 1, 1, 10},
            {10, 100, 10, 10, 1},
            {1, 10, 100, 1, 10},
            {1, 10, 1, 100, 10},
            {10, 1, 10, 10, 100}};
        for (int i = 0; i < 5; i++) {
            for (int j = 0; j < 5; j++) {
                due("form(1, " + i + ", " + j + ")", x.form(1, i, j), want[i][j]);
            }
        }
        due("form(5, 0, 0)", x.form(5, 0, 0), 1);
        // ()|||, |()||, ||()|, |||()
        due("form(3, 0, 0)", x.form(3, 0, 0), 10);
        due("form(3, 0, 1)", x.form(3, 0, 1), 1);
        due("form(3, 0, 2)", x.form(3, 0, 2), 0);
        due("form(3, 0, 3)", x.form(3, 0, 3), 0);
        for (int bad : new int[] {-1, 0, 2, 4, 6, 7, LOW, HIGH}) {
            due("form(" + bad + ", 0, 0)", x.form(bad, 0, 0), OUTSIDE);
        }
        for (int bad : new int[] {-1, 5, LOW, HIGH}) {
            due("form(1, " + bad + ", 0)", x.form(1, bad, 0), OUTSIDE);
            due("form(1, 0, " + bad + ")", x.form(1, 0, bad), OUTSIDE);
        }
        due("form(3, 4, 0)", x.form(3, 4, 0), OUTSIDE);
        due("form(3, 0, 4)", x.form(3, 0, 4), OUTSIDE);
    }

    private static void images() {
        promise = 23;
        LoopStrands x = new LoopStrands();
        for (int bad : new int[] {-1, 2, LOW, HIGH}) {
            due("image(" + bad + ")", x.image(bad), OUTSIDE);
            due("restore(" + bad + ")", x.restore(bad), OUTSIDE);
        }
        fillSlots(x);
        x.put(4, 4, 44);
        due("image(1)", x.image(1), 1);
        due("count(5)", x.count(5), 2);
        promise = 24;
        due("restore(0)", x.restore(0), STATE);
        x.strands(5);
        x.prime(7, 3);
        x.put(0, 41, 6);
        say(x, "(((");
        due("image(0)", x.image(0), 1);
        due("count(5)", x.count(5), 3);
        x.wipe();
        say(x, "12");
        due("restore(1)", x.restore(1), 1);
        int[] want = {3, 5, 97, 2, 2, 3};
        for (int what = 0; what < 6; what++) {
            due("count(" + what + ")", x.count(what), want[what]);
        }
        slotsHold(x, 1);
        due("at(4, 4)", x.at(4, 4), 44);
        x.put(4, 4, 45);
        due("restore(1)", x.restore(1), 1);
        due("at(4, 4)", x.at(4, 4), 44);
        due("restore(0)", x.restore(0), 1);
        due("count(0)", x.count(0), 5);
        due("at(0, 41)", x.at(0, 41), 6);
        due("bracket(3)", x.bracket(3), 1);
        due("word(0)", x.word(0) >= 0 ? 1 : 0, 1);
        due("image(1)", x.image(1), 1);
        x.strands(1);
        due("restore(1)", x.restore(1), 1);
        due("at(0, 41)", x.at(0, 41), 6);
        due("count(2)", x.count(2), 7);
    }

    private static void count() {
        promise = 25;
        LoopStrands x = of(4);
        x.prime(11, 10);
        say(x, "()x");
        x.image(0);
        int[] want = {4, 14, 11, 10, 3, 1};
        for (int what = 0; what < 6; what++) {
            due("count(" + what + ")", x.count(what), want[what]);
        }
        for (int bad : new int[] {-1, 6, LOW, HIGH}) {
            due("count(" + bad + ")", x.count(bad), OUTSIDE);
        }
    }

    private static void face() {
        promise = 0;
        TreeSet<String> names = new TreeSet<>();
        for (Method m : LoopStrands.class.getDeclaredMethods()) {
            if (!Modifier.isPrivate(m.getModifiers())) {
                names.add(m.getName());
                due(m.getName() + " is public and not static",
                        m.getModifiers() & (Modifier.PUBLIC | Modifier.STATIC), Modifier.PUBLIC);
                due(m.getName() + " answers an int", m.getReturnType() == int.class ? 1 : 0, 1);
            }
        }
        String want = "[at, both, bracket, cell, count, diagram, fault, form, image, joined, of, prime, project,"
                + " put, restore, say, stack, strands, times, trace, turn, way, wipe, word]";
        due("the methods " + names, names.toString().equals(want) ? 1 : 0, 1);
        Constructor<?>[] made = LoopStrands.class.getDeclaredConstructors();
        due("constructors", made.length, 1);
        due("parameters", made[0].getParameterCount(), 0);
        due("public constructor", made[0].getModifiers(), Modifier.PUBLIC);
        due("public final class", LoopStrands.class.getModifiers(), Modifier.PUBLIC | Modifier.FINAL);
        int[] constants = {LoopStrands.UNKNOWN, LoopStrands.OUTSIDE, LoopStrands.STATE, LoopStrands.FULL,
            LoopStrands.NONE, LoopStrands.FAULT};
        int[] values = {UNKNOWN, OUTSIDE, STATE, FULL, NONE, FAULT};
        for (int i = 0; i < values.length; i++) {
            due("constant " + i, constants[i], values[i]);
        }
    }

    public static void main(String[] args) {
        face();
        newObject();
        strands();
        say();
        wipe();
        fault();
        diagram();
        word();
        ofDiagram();
        joined();
        stack();
        way();
        prime();
        putAndAt();
        both();
        times();
        turn();
        trace();
        bracket();
        project();
        cell();
        form();
        images();
        count();
        System.out.println(wrong == 0 ? "all promises are kept" : wrong + " answers are not as due");
        if (wrong != 0) {
            System.exit(1);
        }
    }
}
