/**
 * Sentence by sentence: each sentence of the document that names a boundary case (too small, too large, empty, full,
 * a wrap-around, the first and the last) has a test of its own here, under its own words. Which refusal is answered
 * where two fit, and that refused calls change nothing, is looked at in RefusalsTest too, with all arguments.
 */
public final class EdgesTest {
    private static final int UNKNOWN = -1, OUTSIDE = -2, STATE = -3, FULL = -4, NONE = -6, FAULT = -7;
    private static final int LOW = Integer.MIN_VALUE, HIGH = Integer.MAX_VALUE;
    private static final int[] DIAGRAMS = {0, 1, 2, 5, 14, 42};
    private static final int[][] HALVES =
            {{}, {0, 1}, {1, 0, 1}, {0, 2, 0, 1}, {2, 0, 3, 0, 1}, {0, 5, 0, 4, 0, 1}};

    private static int wrong = 0;
    private static String sentence = "";

    private static void sentence(String words) {
        sentence = words;
    }

    private static void due(String call, int got, int want) {
        if (got != want) {
            wrong++;
            System.out.println("\"" + sentence + "\": " + call + " answered " + got + ", due is " + want);
        }
    }

    private static LoopStrands of(int many) {
        LoopStrands x = new LoopStrands();
        x.strands(many);
        return x;
    }

    private static LoopStrands of(int many, int prime, int loop) {
        LoopStrands x = of(many);
        x.prime(prime, loop);
        return x;
    }

    /** THE PAD is told anew. */
    private static LoopStrands told(LoopStrands x, String signs) {
        x.wipe();
        for (char sign : signs.toCharArray()) {
            x.say(sign);
        }
        return x;
    }

    private static void fillSlots(LoopStrands x) {
        for (int slot = 0; slot < 5; slot++) {
            x.put(slot, 0, 1);
        }
    }

    private static void slotsHold(String when, LoopStrands x, int want) {
        for (int slot = 0; slot < 5; slot++) {
            due(when + ", at(" + slot + ", 0)", x.at(slot, 0), want);
        }
    }

    /** A DIAGRAM's text, read from what it joins. */
    private static String text(LoopStrands x, int many, int d) {
        StringBuilder text = new StringBuilder();
        for (int p = 0; p < 2 * many; p++) {
            text.append(x.joined(d, p) > p ? '(' : ')');
        }
        return text.toString();
    }

    // ---- Terms: what holds for all calls

    private static void lastCall() {
        sentence("An object is used for at most 512 calls after it has been made");
        LoopStrands x = new LoopStrands();
        x.put(0, 0, 1);
        x.put(1, 0, 1);
        for (int call = 3; call <= 511; call++) {
            x.both(0, 0, 1, 0);
        }
        due("the 512th call, at(0, 0)", x.at(0, 0), (1 + 509) % 97);
        LoopStrands y = new LoopStrands();
        for (int call = 1; call <= 511; call++) {
            y.strands(call % 5 + 1);
        }
        due("the 512th call, strands(5)", y.strands(5), 42);
    }

    private static void firstThatFits() {
        sentence("Calls that are refused answer the first that fits, in the order in which they are told with the"
                + " call");
        LoopStrands x = new LoopStrands();
        due("of(5, 4)", x.of(5, 4), UNKNOWN);
        due("of(-1, -1)", x.of(-1, -1), UNKNOWN);
        due("stack(5, 0, 2)", x.stack(5, 0, 2), UNKNOWN);
        due("stack(0, 5, 2)", x.stack(0, 5, 2), UNKNOWN);
        due("put(5, 0, 97)", x.put(5, 0, 97), UNKNOWN);
        due("put(0, 5, 97)", x.put(0, 5, 97), UNKNOWN);
        due("both(5, 0, 0, 3)", x.both(5, 0, 0, 3), UNKNOWN);
        due("both(0, 5, 0, 3)", x.both(0, 5, 0, 3), UNKNOWN);
        due("both(0, 0, 5, 3)", x.both(0, 0, 5, 3), UNKNOWN);
        due("times(5, 0, 97)", x.times(5, 0, 97), UNKNOWN);
        due("times(0, 5, 97)", x.times(0, 5, 97), UNKNOWN);
        due("project(5, 0)", x.project(5, 0), UNKNOWN);
        due("project(5, 4)", x.project(5, 4), UNKNOWN);
        due("restore(2), nothing kept", x.restore(2), OUTSIDE);
        due("restore(-1), nothing kept", x.restore(-1), OUTSIDE);
        told(x, "x");
        due("x, word(2)", x.word(2), OUTSIDE);
        due("x, word(-1)", x.word(-1), OUTSIDE);
        told(x, "111111111111111111111111");
        due("full, say(32)", x.say(32), OUTSIDE);
        due("full, say(127)", x.say(127), OUTSIDE);
        x.prime(97, 0);
        due("BRACKET of 2 is 0, project(5, 2)", x.project(5, 2), UNKNOWN);
        due("BRACKET of 2 is 0, project(5, 4)", x.project(5, 4), UNKNOWN);
        due("BRACKET of 2 is 0, project(0, 4)", x.project(0, 4), OUTSIDE);
        due("BRACKET of 2 is 0, project(0, 0)", x.project(0, 0), OUTSIDE);
    }

    private static void noneLast() {
        sentence("NONE -6 is told only where no refusal fits");
        LoopStrands x = new LoopStrands();
        due("way(5, 0)", x.way(5, 0), UNKNOWN);
        due("way(5, -1)", x.way(5, -1), UNKNOWN);
        due("way(-1, 9)", x.way(-1, 9), UNKNOWN);
        due("a right WORD, fault(2)", x.fault(2), OUTSIDE);
        told(x, "((()))");
        due("a right DIAGRAM, fault(-1)", x.fault(-1), OUTSIDE);
        due("a right DIAGRAM, fault(2)", x.fault(2), OUTSIDE);
    }

    private static void asThingsAreThen() {
        sentence("Whatever is told is told as things are then.");
        LoopStrands x = told(new LoopStrands(), "13");
        due("word(0)", x.word(0), FAULT);
        x.strands(4);
        due("MANY 4, word(0)", x.word(0), 13);
        due("MANY 4, of(0, 0)", x.of(0, 0), 4);
        due("MANY 4, joined(0, 7)", x.joined(0, 7), 0);
        x.strands(2);
        due("MANY 2, fault(1)", x.fault(1), 1);
        due("MANY 2, of(2, 0)", x.of(2, 0), UNKNOWN);
        due("MANY 2, joined(0, 4)", x.joined(0, 4), UNKNOWN);
        due("MANY 2, cell(1, 0)", x.cell(1, 0), OUTSIDE);
        due("MANY 2, project(0, 3)", x.project(0, 3), OUTSIDE);
        x.prime(5, 0);
        due("by 5, put(0, 0, 5)", x.put(0, 0, 5), OUTSIDE);
        due("by 5, times(0, 0, 5)", x.times(0, 0, 5), OUTSIDE);
        due("by 5, bracket(3)", x.bracket(3), 4);
        due("by 5, cell(0, 1)", x.cell(0, 1), 0);
        due("by 5, project(0, 2)", x.project(0, 2), STATE);
        x.prime(7, 6);
        due("by 7, put(0, 0, 6)", x.put(0, 0, 6), 0);
        due("by 7, form(0, 0, 0)", x.form(0, 0, 0), 6);
        due("by 7, trace(0)", x.trace(0), 6);
    }

    // ---- Terms, part 1

    private static void many() {
        sentence("MANY is 1 to 5 (3 at first).");
        LoopStrands x = new LoopStrands();
        due("new, count(0)", x.count(0), 3);
        due("strands(0)", x.strands(0), OUTSIDE);
        due("count(0)", x.count(0), 3);
        due("strands(1)", x.strands(1), 1);
        due("count(0)", x.count(0), 1);
        due("strands(6)", x.strands(6), OUTSIDE);
        due("count(0)", x.count(0), 1);
        due("strands(5)", x.strands(5), 42);
        due("count(0)", x.count(0), 5);
    }

    private static void points() {
        sentence("so POINT 2 MANY less 1 less i lies below POINT i");
        for (int many = 1; many <= 5; many++) {
            LoopStrands x = of(many);
            String at = "MANY " + many + ", ";
            for (int p = 0; p < 2 * many; p++) {
                due(at + "joined(0, " + p + ")", x.joined(0, p), 2 * many - 1 - p);
            }
        }
        sentence("POINTS 0 to MANY less 1 lie above, from left to right, then POINTS MANY to 2 MANY less 1 below");
        for (int many = 1; many <= 5; many++) {
            LoopStrands x = of(many);
            String at = "MANY " + many + ", ";
            due(at + "joined(0, -1)", x.joined(0, -1), UNKNOWN);
            due(at + "joined(0, " + 2 * many + ")", x.joined(0, 2 * many), UNKNOWN);
        }
    }

    private static void arcs() {
        sentence("A DIAGRAM joins all POINTS two and two by ARCS, no two of which cross");
        for (int many = 1; many <= 5; many++) {
            for (int d = 0; d < DIAGRAMS[many]; d++) {
                LoopStrands x = of(many);
                String at = "MANY " + many + ", DIAGRAM " + d + ", ";
                for (int a = 0; a < 2 * many; a++) {
                    int c = x.joined(d, a);
                    due(at + "POINT " + a + " is joined to another one", c != a ? 1 : 0, 1);
                    due(at + "back to " + a, x.joined(d, c), a);
                    for (int b = a + 1; b < c; b++) {
                        int e = x.joined(d, b);
                        due(at + "ARCS at " + a + " and " + b + " cross", e < a || e > c ? 1 : 0, 0);
                    }
                }
            }
        }
    }

    private static void numbersOfDiagrams() {
        sentence("DIAGRAMS are numbered from 0 on as their texts come in order, ( ahead of )");
        for (int many = 1; many <= 5; many++) {
            LoopStrands x = of(many);
            String at = "MANY " + many + ", ";
            int last = DIAGRAMS[many] - 1;
            due(at + "of(-1, 0)", x.of(-1, 0), UNKNOWN);
            due(at + "of(" + (last + 1) + ", 0)", x.of(last + 1, 0), UNKNOWN);
            due(at + "joined(-1, 0)", x.joined(-1, 0), UNKNOWN);
            due(at + "joined(" + (last + 1) + ", 0)", x.joined(last + 1, 0), UNKNOWN);
            due(at + "the first text", told(x, "(".repeat(many) + ")".repeat(many)).diagram(), 0);
            due(at + "the last text", told(x, "()".repeat(many)).diagram(), last);
            due(at + "joined(" + last + ", 0)", x.joined(last, 0), 1);
            due(at + "joined(" + last + ", last POINT)", x.joined(last, 2 * many - 1), 2 * many - 2);
            String before = "";
            for (int d = 0; d <= last; d++) {
                String text = text(of(many), many, d);
                due(at + before + " comes ahead of " + text, before.compareTo(text) < 0 ? 1 : 0, 1);
                before = text;
            }
        }
        sentence("so 0 joins each POINT above to that below it: ONE");
        for (int many = 1; many <= 5; many++) {
            due("MANY " + many + ", the empty WORD", of(many).word(0), 0);
            due("MANY " + many + ", of(0, 0)", of(many).of(0, 0), many);
        }
    }

    private static void through() {
        sentence("THROUGH of a DIAGRAM: how many ARCS join a POINT above to one below.");
        for (int many = 1; many <= 5; many++) {
            LoopStrands x = of(many);
            String at = "MANY " + many + ", ";
            due(at + "all of them, of(0, 0)", x.of(0, 0), many);
            due(at + "none or one, of the last", x.of(DIAGRAMS[many] - 1, 0), many % 2);
            for (int d = 1; d < DIAGRAMS[many]; d++) {
                due(at + "of(" + d + ", 0) is less and as even as MANY",
                        x.of(d, 0) >= 0 && x.of(d, 0) < many && (many - x.of(d, 0)) % 2 == 0 ? 1 : 0, 1);
            }
        }
    }

    private static void turned() {
        sentence("TURNED: above and below change their parts, from left to right as it was.");
        for (int many = 1; many <= 5; many++) {
            LoopStrands x = of(many);
            String at = "MANY " + many + ", ";
            due(at + "ONE TURNED", x.of(0, 2), 0);
            due(at + "the last TURNED, if MANY is even", many % 2 == 0 ? x.of(DIAGRAMS[many] - 1, 2) : 0,
                    many % 2 == 0 ? DIAGRAMS[many] - 1 : 0);
            for (int d = 0; d < DIAGRAMS[many]; d++) {
                due(at + d + " TURNED twice", x.of(x.of(d, 2), 2), d);
            }
            for (int i = 1; i < many; i++) {
                int hook = told(x, "" + i).word(0);
                due(at + "HOOK " + i + " TURNED", x.of(hook, 2), hook);
            }
        }
    }

    private static void stacked() {
        sentence("what is joined so from above of a to below of b, or back to the same side, makes a DIAGRAM;"
                + " how many closed LOOPS there are besides is told, too");
        for (int many = 1; many <= 5; many++) {
            LoopStrands x = of(many);
            String at = "MANY " + many + ", ";
            int last = DIAGRAMS[many] - 1;
            for (int d = 0; d <= last; d++) {
                due(at + "ONE on " + d, x.stack(0, d, 0), d);
                due(at + d + " on ONE", x.stack(d, 0, 0), d);
                due(at + "LOOPS of ONE on " + d, x.stack(0, d, 1), 0);
                due(at + "LOOPS of " + d + " on ONE", x.stack(d, 0, 1), 0);
            }
            due(at + "most LOOPS", x.stack(last, last, 1), many / 2);
        }
        LoopStrands x = of(4);
        // all of one side on what goes through: nothing is left of what went through
        due("()()()() on ((()))()", x.stack(13, told(x, "((()))()").diagram(), 0), 13);
        due("(()()()) on ()()()()", x.stack(told(x, "(()()())").diagram(), 13, 0), told(x, "(())()()").diagram());
    }

    private static void closed() {
        sentence("CLOSED: each POINT above of a DIAGRAM and that below it become one: so many LOOPS.");
        for (int many = 1; many <= 5; many++) {
            LoopStrands x = of(many);
            String at = "MANY " + many + ", ";
            due(at + "most, of(0, 1)", x.of(0, 1), many);
            due(at + "of the last", x.of(DIAGRAMS[many] - 1, 1), (many + 1) / 2);
            int least = many;
            for (int d = 0; d < DIAGRAMS[many]; d++) {
                least = Math.min(least, x.of(d, 1));
            }
            due(at + "least", least, 1);
        }
    }

    private static void hooks() {
        sentence("HOOK i, 1 to MANY less 1, joins POINTS i less 1 and i, those below these, and all others as ONE"
                + " does.");
        for (int many = 1; many <= 5; many++) {
            LoopStrands x = of(many);
            String at = "MANY " + many + ", ";
            for (int i = 1; i < many; i++) {
                int d = told(x, "" + i).word(0);
                for (int p = 0; p < 2 * many; p++) {
                    int below = 2 * many - 1 - p;
                    int want = p == i - 1 ? i : p == i ? i - 1
                            : below == i - 1 ? 2 * many - 1 - i : below == i ? 2 * many - i : below;
                    due(at + "HOOK " + i + " joins " + p, x.joined(d, p), want);
                }
            }
            due(at + "HOOK 0", told(x, "0").word(0), FAULT);
            due(at + "HOOK " + many, told(x, "" + many).word(0), FAULT);
        }
    }

    private static void words() {
        sentence("A WORD is a row of HOOKS (figures 1 to MANY less 1), STACKED one below the other (none: ONE)");
        for (int many = 1; many <= 5; many++) {
            LoopStrands x = of(many);
            due("MANY " + many + ", none, word(0)", x.word(0), 0);
            due("MANY " + many + ", none, word(1)", x.word(1), 0);
        }
        LoopStrands x = new LoopStrands();
        // 1 above 2 has its ARC above at the left, where the text begins with ()
        due("12", told(x, "12").word(0), told(x, "()(())").diagram());
        due("21", told(x, "21").word(0), told(x, "(())()").diagram());
        sentence("its LOOPS are those of all steps");
        due("11", told(x, "11").word(1), 1);
        due("1122", told(x, "1122").word(1), 2);
        due("24 of HOOK 2, word(0)", told(x, "2".repeat(24)).word(0), 1);
        due("24 of HOOK 2, word(1)", x.word(1), 23);
        due("24 without a LOOP, word(0)", told(x, "12".repeat(12)).word(0), 3);
        due("24 without a LOOP, word(1)", x.word(1), 0);
        due("MANY 5, 24 of HOOK 4", told(of(5), "4".repeat(24)).word(1), 23);
    }

    private static void ways() {
        sentence("WAY to a DIAGRAM: the fewest HOOKS of a WORD that makes it (LOOPS or not)");
        int[] longest = {0, 0, 1, 2, 4, 6};
        for (int many = 1; many <= 5; many++) {
            int most = 0;
            for (int d = 0; d < DIAGRAMS[many]; d++) {
                LoopStrands x = of(many);
                int hooks = x.of(d, 3);
                most = Math.max(most, hooks);
                for (int i = 0; i < hooks; i++) {
                    x.say('0' + x.way(d, i));
                }
                due("MANY " + many + ", the WAY to " + d, x.word(0), d);
            }
            due("MANY " + many + ", most HOOKS", most, longest[many]);
            due("MANY " + many + ", HOOKS to ONE", of(many).of(0, 3), 0);
        }
        sentence("of such the first: with the lesser figure where they differ first");
        String[] firsts = {"13", "132", "213", "2132", "14", "143", "214", "1324", "213243", "1432", "3214"};
        for (String word : firsts) {
            LoopStrands x = told(of(5), word);
            int d = x.word(0);
            due(word + ", how many", x.of(d, 3), word.length());
            for (int i = 0; i < word.length(); i++) {
                due(word + ", way(" + d + ", " + i + ")", x.way(d, i), word.charAt(i) - '0');
            }
        }
    }

    private static void pad() {
        sentence("THE PAD has up to 24 signs.");
        LoopStrands x = new LoopStrands();
        due("empty, count(4)", x.count(4), 0);
        for (int signs = 1; signs <= 24; signs++) {
            due("say(49)", x.say(49), signs);
        }
        due("full, say(50)", x.say(50), FULL);
        due("full, count(4)", x.count(4), 24);
        due("full, word(0)", x.word(0), 4);
        due("full, word(1)", x.word(1), 23);
        due("full, wipe()", x.wipe(), 24);
        due("wiped, say(50)", x.say(50), 1);
        due("wiped, word(0)", x.word(0), 1);
    }

    private static void faults() {
        sentence("the place, from 0 on, of the first sign by which no such text can begin that has all signs before"
                + " it, too");
        for (int many = 1; many <= 5; many++) {
            LoopStrands x = of(many);
            String at = "MANY " + many + ", ";
            String whole = "(".repeat(many) + ")".repeat(many);
            due(at + "the first sign", told(x, ")" + whole).fault(0), 0);
            due(at + "one ( too many", told(x, "(".repeat(many + 1)).fault(0), many);
            due(at + "one ( too many, later", told(x, "()".repeat(many) + "(").fault(0), 2 * many);
            due(at + "one ) too many", told(x, whole + ")").fault(0), 2 * many);
            due(at + "a ) that ends nothing", told(x, "())").fault(0), 2);
            due(at + "no sign of such a text", told(x, "(|").fault(0), 1);
            due(at + "the first of two", told(x, "(*" + ")))").fault(0), 1);
            due(at + "a full PAD", told(x, whole.repeat(12)).fault(0), 2 * many);
            due(at + "the sign ahead of (", told(x, "'").fault(0), 0);
            due(at + "the sign behind )", told(x, "(*").fault(0), 1);
            String hooks = many == 1 ? "" : "" + (many - 1);
            due(at + "figure 0", told(x, hooks + "0").fault(1), hooks.length());
            due(at + "figure MANY", told(x, hooks + many).fault(1), hooks.length());
            due(at + "no figure", told(x, hooks + "(").fault(1), hooks.length());
            due(at + "/ ahead of 0", told(x, "/").fault(1), 0);
            due(at + ": behind 9", told(x, ":").fault(1), 0);
            due(at + "the first of two", told(x, hooks + "00").fault(1), hooks.length());
            due(at + "all by the last place", told(x, hooks.repeat(23) + "0").fault(1), hooks.isEmpty() ? 0 : 23);
        }
    }

    private static void moreMustCome() {
        sentence("if there is none such, and more must come, how many signs it has");
        for (int many = 1; many <= 5; many++) {
            LoopStrands x = of(many);
            String at = "MANY " + many + ", ";
            due(at + "empty, fault(0)", x.fault(0), 0);
            due(at + "empty, diagram()", x.diagram(), FAULT);
            due(at + "all (", told(x, "(".repeat(many)).fault(0), many);
            due(at + "one sign less", told(x, "()".repeat(many - 1) + "(").fault(0), 2 * many - 1);
            due(at + "two signs less", told(x, "()".repeat(many - 1)).fault(0), 2 * many - 2);
        }
        sentence("NONE: there is none");
        for (int many = 1; many <= 5; many++) {
            LoopStrands x = of(many);
            String at = "MANY " + many + ", ";
            due(at + "empty, fault(1)", x.fault(1), NONE);
            due(at + "the first text", told(x, "(".repeat(many) + ")".repeat(many)).fault(0), NONE);
            due(at + "the last text", told(x, "()".repeat(many)).fault(0), NONE);
            if (many > 1) {
                due(at + "HOOK 1", told(x, "1").fault(1), NONE);
                due(at + "the last HOOK, 24 times", told(x, ("" + (many - 1)).repeat(24)).fault(1), NONE);
            }
        }
    }

    // ---- Terms, part 2

    private static void primes() {
        sentence("NUMBERS are 0 to PRIME less 1, PRIME being a prime, 2 to 101 (97 at first)");
        LoopStrands x = new LoopStrands();
        due("new, count(2)", x.count(2), 97);
        due("prime(1, 0)", x.prime(1, 0), OUTSIDE);
        due("prime(2, 0)", x.prime(2, 0), 97);
        due("prime(0, 0)", x.prime(0, 0), OUTSIDE);
        due("prime(-2, 0)", x.prime(-2, 0), OUTSIDE);
        due("prime(102, 0)", x.prime(102, 0), OUTSIDE);
        due("prime(103, 0)", x.prime(103, 0), OUTSIDE);
        due("prime(101, 0)", x.prime(101, 0), 2);
        due("prime(100, 0)", x.prime(100, 0), OUTSIDE);
        for (int one = 2; one <= 10; one++) {
            for (int other = one; one * other <= 101; other++) {
                due("prime(" + one * other + ", 0)", x.prime(one * other, 0), OUTSIDE);
            }
        }
        due("count(2)", x.count(2), 101);
        int[] primes = {2, 3, 5, 7, 11, 13, 17, 19, 23, 29, 31, 37, 41, 43, 47, 53, 59, 61, 67, 71, 73, 79, 83, 89, 97,
            101};
        for (int i = 0; i < primes.length; i++) {
            due("prime(" + primes[i] + ", 0)", x.prime(primes[i], 0), i == 0 ? 101 : primes[i - 1]);
        }
        for (int prime : new int[] {2, 3, 97, 101}) {
            LoopStrands y = of(3, prime, 0);
            String at = "by " + prime + ", ";
            due(at + "put -1", y.put(0, 0, -1), OUTSIDE);
            due(at + "put PRIME", y.put(0, 0, prime), OUTSIDE);
            due(at + "put PRIME less 1", y.put(0, 0, prime - 1), 0);
            due(at + "put 0", y.put(0, 0, 0), prime - 1);
            due(at + "times -1", y.times(0, 0, -1), OUTSIDE);
            due(at + "times PRIME", y.times(0, 0, prime), OUTSIDE);
            due(at + "times PRIME less 1", y.times(0, 0, prime - 1), 0);
            due(at + "times 0", y.times(0, 0, 0), 0);
        }
    }

    private static void wrapAround() {
        sentence("sums, differences and products are what they leave over by PRIME (0 or more)");
        for (int prime : new int[] {2, 3, 97, 101}) {
            LoopStrands x = of(2, prime, prime - 1);
            String at = "by " + prime + ", ";
            x.put(0, 0, prime - 1);
            x.put(1, 0, 1);
            due(at + "PRIME less 1 and 1", x.both(2, 0, 1, 0), 0);
            due(at + "at(2, 0)", x.at(2, 0), 0);
            x.both(2, 0, 0, 0);
            due(at + "PRIME less 1 twice", x.at(2, 0), (prime - 2));
            x.both(2, 3, 1, 1);
            due(at + "0 less 1", x.at(2, 0), prime - 1);
            x.both(2, 3, 0, 1);
            due(at + "0 less PRIME less 1", x.at(2, 0), 1);
            x.both(2, 0, 0, 1);
            due(at + "one less itself", x.at(2, 0), 0);
            x.times(2, 0, prime - 1);
            due(at + "PRIME less 1 times itself", x.at(2, 0), 1);
            x.both(2, 0, 0, 2);
            due(at + "PRIME less 1 on itself", x.at(2, 0), 1);
            due(at + "bracket(2)", x.bracket(2), prime - 1);
            due(at + "bracket(3)", x.bracket(3), 0);
            due(at + "bracket(4)", x.bracket(4), 1);
            due(at + "PRIME less 1 times LOOP times LOOP", x.trace(0), prime - 1);
        }
    }

    private static void loop() {
        sentence("LOOP is such a NUMBER (2 at first).");
        LoopStrands x = new LoopStrands();
        due("new, count(3)", x.count(3), 2);
        for (int prime : new int[] {2, 3, 97, 101}) {
            due("prime(" + prime + ", -1)", x.prime(prime, -1), OUTSIDE);
            due("prime(" + prime + ", " + prime + ")", x.prime(prime, prime), OUTSIDE);
            due("prime(" + prime + ", 0) is taken", x.prime(prime, 0) > 0 ? 1 : 0, 1);
            due("count(3)", x.count(3), 0);
            due("prime(" + prime + ", PRIME less 1)", x.prime(prime, prime - 1), prime);
            due("count(3)", x.count(3), prime - 1);
        }
        // a NUMBER by the PRIME that was, but none by that which is told
        due("prime(5, 7)", x.prime(5, 7), OUTSIDE);
        due("count(2)", x.count(2), 101);
    }

    private static void slots() {
        sentence("SLOTS 0 to 4 hold SUMS");
        LoopStrands x = new LoopStrands();
        for (int slot = 0; slot <= 4; slot++) {
            due("put(" + slot + ", 4, ..)", x.put(slot, 4, slot + 1), 0);
        }
        for (int slot = 0; slot <= 4; slot++) {
            due("at(" + slot + ", 4)", x.at(slot, 4), slot + 1);
            due("trace(" + slot + ")", x.trace(slot), 4 * (slot + 1));
        }
        for (int bad : new int[] {-1, 5}) {
            due("put(" + bad + ", 0, 0)", x.put(bad, 0, 0), UNKNOWN);
            due("at(" + bad + ", 0)", x.at(bad, 0), UNKNOWN);
            due("both(" + bad + ", 0, 0, 0)", x.both(bad, 0, 0, 0), UNKNOWN);
            due("both(0, " + bad + ", 0, 0)", x.both(0, bad, 0, 0), UNKNOWN);
            due("both(0, 0, " + bad + ", 0)", x.both(0, 0, bad, 0), UNKNOWN);
            due("times(" + bad + ", 0, 1)", x.times(bad, 0, 1), UNKNOWN);
            due("times(0, " + bad + ", 1)", x.times(0, bad, 1), UNKNOWN);
            due("turn(" + bad + ", 0)", x.turn(bad, 0), UNKNOWN);
            due("turn(0, " + bad + ")", x.turn(0, bad), UNKNOWN);
            due("trace(" + bad + ")", x.trace(bad), UNKNOWN);
            due("project(" + bad + ", 1)", x.project(bad, 1), UNKNOWN);
        }
        due("both(4, 4, 4, 0)", x.both(4, 4, 4, 0), 1);
        due("times(4, 4, 1)", x.times(4, 4, 1), 1);
        due("turn(4, 4)", x.turn(4, 4), 1);
        due("project(4, 1)", x.project(4, 1), 1);
    }

    private static void slotsBecomeNothing() {
        sentence("all 0 at first, and whenever MANY or PRIME is told");
        LoopStrands x = new LoopStrands();
        slotsHold("new", x, 0);
        fillSlots(x);
        x.strands(3);
        slotsHold("the same MANY told", x, 0);
        fillSlots(x);
        x.strands(4);
        slotsHold("another MANY told", x, 0);
        fillSlots(x);
        x.prime(97, 2);
        slotsHold("the same PRIME and LOOP told", x, 0);
        fillSlots(x);
        x.prime(97, 3);
        slotsHold("the same PRIME told with another LOOP", x, 0);
        fillSlots(x);
        x.prime(101, 3);
        slotsHold("another PRIME told", x, 0);
        fillSlots(x);
        x.strands(0);
        x.strands(6);
        slotsHold("MANY refused", x, 1);
        x.prime(4, 0);
        x.prime(103, 0);
        x.prime(101, 101);
        slotsHold("PRIME or LOOP refused", x, 1);
        x.strands(5);
        for (int slot = 0; slot < 5; slot++) {
            x.put(slot, 41, 7);
        }
        x.strands(2);
        x.strands(5);
        for (int slot = 0; slot < 5; slot++) {
            due("more DIAGRAMS again, at(" + slot + ", 41)", x.at(slot, 41), 0);
        }
    }

    private static void loopPowers() {
        sentence("and of LOOP as often as there are LOOPS of a on b, is added to that of a on b");
        for (int prime : new int[] {2, 97}) {
            LoopStrands x = of(4, prime, 0);
            String at = "LOOP 0 by " + prime + ", ";
            x.put(0, 13, 1);
            x.put(1, 0, 1);
            due(at + "no LOOPS", x.both(2, 0, 1, 2), 1);
            due(at + "no LOOPS, at(2, 13)", x.at(2, 13), 1);
            due(at + "two LOOPS", x.both(2, 0, 0, 2), 0);
            due(at + "nothing on something", x.both(2, 4, 0, 2), 0);
            due(at + "something on nothing", x.both(2, 0, 4, 2), 0);
        }
        LoopStrands y = of(4, 97, 3);
        y.put(0, 13, 2);
        y.put(1, 13, 5);
        due("two LOOPS of 3", y.both(2, 0, 1, 2), 1);
        due("two LOOPS of 3, at(2, 13)", y.at(2, 13), 2 * 5 * 9);
        LoopStrands z = of(2, 7, 3);
        z.put(0, 0, 1);
        z.put(0, 1, 1);
        z.put(1, 0, 5);
        z.put(1, 1, 2);
        // HOOK comes three times: 1 * 2, 1 * 5 and 1 * 2 * LOOP; together 13
        due("what comes more than once", z.both(2, 0, 1, 2), 2);
        due("at(2, 1)", z.at(2, 1), 13 % 7);
    }

    private static void traces() {
        sentence("TRACE of a SUM: the products of NUMBERS and of LOOP as often as there are LOOPS of the DIAGRAM"
                + " CLOSED, added.");
        for (int many = 1; many <= 5; many++) {
            LoopStrands x = of(many, 101, 3);
            String at = "MANY " + many + ", ";
            due(at + "nothing", x.trace(0), 0);
            x.put(0, 0, 1);
            int power = 1;
            for (int i = 0; i < many; i++) {
                power = power * 3 % 101;
            }
            due(at + "ONE", x.trace(0), power);
            LoopStrands y = of(many, 101, 0);
            for (int d = 0; d < DIAGRAMS[many]; d++) {
                y.put(0, d, 1);
            }
            due(at + "LOOP 0", y.trace(0), 0);
            LoopStrands z = of(many, 101, 1);
            for (int d = 0; d < DIAGRAMS[many]; d++) {
                z.put(4, d, 100);
            }
            due(at + "LOOP 1, all with PRIME less 1", z.trace(4), 101 - DIAGRAMS[many]);
        }
    }

    private static void brackets() {
        sentence("BRACKET of k: of 0 it is 0, of 1 it is 1, of each other one LOOP times that of k less 1, less that"
                + " of k less 2.");
        for (int loop = 0; loop < 5; loop++) {
            LoopStrands x = of(3, 5, loop);
            String at = "LOOP " + loop + " by 5, ";
            due(at + "bracket(0)", x.bracket(0), 0);
            due(at + "bracket(1)", x.bracket(1), 1);
            due(at + "bracket(2)", x.bracket(2), loop);
            due(at + "bracket(3)", x.bracket(3), (loop * loop + 4) % 5);
            for (int k = 2; k <= 99; k++) {
                due(at + "bracket(" + k + ")", x.bracket(k), (loop * x.bracket(k - 1) + 5 - x.bracket(k - 2)) % 5);
            }
        }
    }

    private static void projectors() {
        sentence("PROJECTOR of n, n from 1 to MANY");
        for (int many = 1; many <= 5; many++) {
            LoopStrands x = of(many, 101, 2);
            String at = "MANY " + many + ", ";
            due(at + "project(0, 0)", x.project(0, 0), OUTSIDE);
            due(at + "project(0, MANY and 1)", x.project(0, many + 1), OUTSIDE);
            due(at + "project(0, MANY)", x.project(0, many), DIAGRAMS[many]);
            due(at + "TRACE of it", x.trace(0), many + 1);
            due(at + "project(0, 1)", x.project(0, 1), 1);
            due(at + "at(0, 0)", x.at(0, 0), 1);
        }
        sentence("of 1 it is ONE with 1");
        LoopStrands x = of(2, 2, 0);
        x.put(0, 1, 1);
        due("project(0, 1)", x.project(0, 1), 1);
        due("at(0, 0)", x.at(0, 0), 1);
        due("at(0, 1)", x.at(0, 1), 0);
        sentence("times BRACKET of n, divided by that of n and 1, added (that is: times what makes 1 with it)");
        due("LOOP 1 by 2, project(0, 2)", of(2, 2, 1).project(0, 2), 2);
        int[][] halved = {{2, 1, 1}, {3, 1, 2}, {3, 2, 1}, {97, 2, 48}, {101, 100, 1}, {101, 2, 50}};
        for (int[] one : halved) {
            LoopStrands y = of(2, one[0], one[1]);
            y.project(0, 2);
            due("LOOP " + one[1] + " by " + one[0] + ", at(0, 0)", y.at(0, 0), 1);
            due("LOOP " + one[1] + " by " + one[0] + ", at(0, 1)", y.at(0, 1), one[2]);
        }
    }

    private static void noProjector() {
        sentence("There is one of n as long as no BRACKET of 2 to n is 0.");
        // PRIME, LOOP, the least k of 2 or more whose BRACKET is 0
        int[][] cases = {{97, 0, 2}, {2, 0, 2}, {97, 1, 3}, {97, 96, 3}, {2, 1, 3}, {3, 2, 3}, {7, 3, 4}, {5, 2, 5},
            {11, 4, 5}, {7, 2, 7}};
        for (int[] one : cases) {
            LoopStrands x = of(5, one[0], one[1]);
            String at = "LOOP " + one[1] + " by " + one[0] + ", ";
            due(at + "bracket(" + one[2] + ")", x.bracket(one[2]), 0);
            for (int n = 1; n <= 5; n++) {
                x.put(2, 41, 1);
                int answer = x.project(2, n);
                if (n < one[2]) {
                    due(at + "project(2, " + n + ") is taken", answer > 0 ? 1 : 0, 1);
                } else {
                    due(at + "project(2, " + n + ")", answer, STATE);
                    due(at + "at(2, 41)", x.at(2, 41), 1);
                }
            }
        }
    }

    // ---- Terms, part 3

    private static void halves() {
        sentence("HALVES of r, r of 0 to MANY such that MANY less r is even");
        for (int many = 1; many <= 5; many++) {
            LoopStrands x = of(many);
            for (int r = -3; r <= 8; r++) {
                boolean is = r >= 0 && r <= many && HALVES[many][r] > 0;
                String at = "MANY " + many + ", r " + r + ", ";
                due(at + "cell", x.cell(r, 0), is ? HALVES[many][r] : OUTSIDE);
                due(at + "form", x.form(r, 0, 0) == OUTSIDE ? 0 : 1, is ? 1 : 0);
            }
            due("MANY " + many + ", r LOW", x.cell(LOW, 0), OUTSIDE);
            due("MANY " + many + ", r HIGH", x.cell(HIGH, 0), OUTSIDE);
        }
        sentence("no open one below an ARC");
        due("MANY 3, ()| and |(), not (|)", new LoopStrands().cell(1, 0), 2);
        due("MANY 4, ()||, |()|, ||(), not (||)", of(4).cell(2, 0), 3);
    }

    private static void orderOfHalves() {
        sentence("in order, ( ahead of ), and ) ahead of |");
        // ()||, |()|, ||(): only the outer ones have nothing to do with one another
        LoopStrands x = of(4, 101, 10);
        int[][] two = {{10, 1, 0}, {1, 10, 1}, {0, 1, 10}};
        // (())|, ()()|, ()|(), |(()), |()()
        LoopStrands y = of(5, 101, 10);
        int[][] one = {{100, 10, 1, 1, 10}, {10, 100, 10, 10, 1}, {1, 10, 100, 1, 10}, {1, 10, 1, 100, 10},
            {10, 1, 10, 10, 100}};
        for (int i = 0; i < 5; i++) {
            for (int j = 0; j < 5; j++) {
                if (i < 3 && j < 3) {
                    due("MANY 4, form(2, " + i + ", " + j + ")", x.form(2, i, j), two[i][j]);
                }
                due("MANY 5, form(1, " + i + ", " + j + ")", y.form(1, i, j), one[i][j]);
            }
        }
    }

    private static void forms() {
        sentence("if each way from an open one of x comes to an open one of y, LOOP as often as there are closed"
                + " LOOPS, else 0");
        for (int many = 1; many <= 5; many++) {
            String at = "MANY " + many + ", ";
            due(at + "all open, no LOOPS, LOOP 0 by 2", of(many, 2, 0).form(many, 0, 0), 1);
            due(at + "all open, LOOP 100", of(many, 101, 100).form(many, 0, 0), 1);
        }
        due("none open, one LOOP", of(2, 97, 5).form(0, 0, 0), 5);
        due("none open, LOOP 0", of(2, 97, 0).form(0, 0, 0), 0);
        due("none open, two LOOPS that wrap around", of(4, 7, 5).form(0, 1, 1), 25 % 7);
        due("none open, two become one LOOP", of(4, 7, 5).form(0, 0, 1), 5);
        due("one comes back", of(4, 7, 5).form(2, 0, 2), 0);
        due("one comes back, LOOP 0", of(4, 7, 0).form(2, 0, 2), 0);
        due("LOOP 0, all ways lead on", of(4, 7, 0).form(2, 0, 1), 1);
        due("one comes back, and one goes on", of(5, 7, 5).form(3, 0, 2), 0);
    }

    private static void cells() {
        sentence("CELL of r: how many HALVES, DETERMINANT and RANK of the TABLE (by NUMBERS).");
        for (int many = 1; many <= 5; many++) {
            LoopStrands x = of(many, 2, 0);
            for (int what = 0; what <= 2; what++) {
                due("MANY " + many + ", all open, cell(MANY, " + what + ")", x.cell(many, what), 1);
            }
        }
        // many, r, prime, loop, determinant, rank
        int[][] cases = {
            {2, 0, 97, 0, 0, 0}, {2, 0, 97, 96, 96, 1}, {4, 0, 97, 0, 0, 0}, {4, 0, 97, 1, 0, 1}, {4, 0, 97, 96, 0, 1},
            {4, 0, 3, 2, 0, 1}, {3, 1, 3, 0, 2, 2}, {3, 1, 2, 0, 1, 2}, {3, 1, 97, 1, 0, 1}, {3, 1, 97, 96, 0, 1},
            {4, 2, 97, 0, 0, 2}, {4, 2, 2, 1, 1, 3}, {4, 2, 2, 0, 0, 2}, {5, 1, 97, 0, 95, 5}, {5, 1, 3, 0, 1, 5},
            {5, 1, 2, 0, 0, 4}, {5, 3, 5, 2, 0, 3}, {5, 3, 97, 0, 1, 4}};
        for (int[] one : cases) {
            LoopStrands x = of(one[0], one[2], one[3]);
            String at = "MANY " + one[0] + ", LOOP " + one[3] + " by " + one[2] + ", cell(" + one[1] + ", ";
            due(at + "1)", x.cell(one[1], 1), one[4]);
            due(at + "2)", x.cell(one[1], 2), one[5]);
            due(at + "1) again", x.cell(one[1], 1), one[4]);
        }
    }

    // ---- the promises

    private static void promises1To4() {
        sentence("MANY 3, PRIME 97, LOOP 2, all SUMS 0; THE PAD is empty; no IMAGE is kept.");
        LoopStrands x = new LoopStrands();
        int[] want = {3, 5, 97, 2, 0, 0};
        for (int what = 0; what <= 5; what++) {
            due("count(" + what + ")", x.count(what), want[what]);
        }
        for (int slot = 0; slot < 5; slot++) {
            for (int d = 0; d < 5; d++) {
                due("at(" + slot + ", " + d + ")", x.at(slot, d), 0);
            }
        }
        due("restore(0)", x.restore(0), STATE);
        due("restore(1)", x.restore(1), STATE);
        sentence("MANY is v (or as it was): how many DIAGRAMS there are. OUTSIDE.");
        for (int many = 1; many <= 5; many++) {
            due("strands(" + many + ")", x.strands(many), DIAGRAMS[many]);
            due("strands(" + many + ") again", x.strands(many), DIAGRAMS[many]);
        }
        for (int bad : new int[] {0, 6, -1, LOW, HIGH}) {
            due("strands(" + bad + ")", x.strands(bad), OUTSIDE);
            due("count(1)", x.count(1), 42);
        }
        sentence("A sign more on THE PAD: how many. OUTSIDE: it is not 33 to 126; FULL: there are 24.");
        for (int bad : new int[] {32, 127, 0, -1, LOW, HIGH}) {
            due("say(" + bad + ")", x.say(bad), OUTSIDE);
        }
        due("count(4)", x.count(4), 0);
        due("say(33)", x.say(33), 1);
        due("say(126)", x.say(126), 2);
        for (int signs = 3; signs <= 24; signs++) {
            due("say(60)", x.say(60), signs);
        }
        due("full, say(33)", x.say(33), FULL);
        due("full, say(126)", x.say(126), FULL);
        sentence("THE PAD is empty: how many signs it had.");
        due("full, wipe()", x.wipe(), 24);
        due("empty, wipe()", x.wipe(), 0);
        due("count(4)", x.count(4), 0);
        x.say(33);
        due("one sign, wipe()", x.wipe(), 1);
    }

    private static void promises5To7() {
        sentence("THE FAULT of THE PAD as a DIAGRAM (how = 0), a WORD (1); NONE. OUTSIDE.");
        LoopStrands x = told(new LoopStrands(), "12");
        for (int bad : new int[] {-1, 2, LOW, HIGH}) {
            due("fault(" + bad + ")", x.fault(bad), OUTSIDE);
        }
        due("12, fault(0)", x.fault(0), 0);
        due("12, fault(1)", x.fault(1), NONE);
        due("THE PAD stays", x.count(4), 2);
        sentence("The DIAGRAM that THE PAD tells, which is empty then. FAULT.");
        due("12, diagram()", x.diagram(), FAULT);
        due("count(4)", x.count(4), 2);
        for (String bad : new String[] {"", "((())", "((()))(", "((()))((()))((()))((()))"}) {
            due(bad + " diagram()", told(x, bad).diagram(), FAULT);
            due(bad + " count(4)", x.count(4), bad.length());
        }
        due("((())) diagram()", told(x, "((()))").diagram(), 0);
        due("count(4)", x.count(4), 0);
        due("empty, diagram()", x.diagram(), FAULT);
        due("()()() diagram()", told(x, "()()()").diagram(), 4);
        due("the PAD takes signs again", x.say('('), 1);
        sentence("Of the WORD on THE PAD, which stays: the DIAGRAM that it makes (what = 0), its LOOPS (1). OUTSIDE;"
                + " FAULT.");
        told(x, "2");
        due("2, word(0)", x.word(0), 1);
        due("2, word(1)", x.word(1), 0);
        due("2, count(4)", x.count(4), 1);
        for (int bad : new int[] {-1, 2, LOW, HIGH}) {
            due("2, word(" + bad + ")", x.word(bad), OUTSIDE);
        }
        told(x, "23");
        due("23, word(0)", x.word(0), FAULT);
        due("23, word(1)", x.word(1), FAULT);
        due("23, word(2)", x.word(2), OUTSIDE);
        due("23, count(4)", x.count(4), 2);
    }

    private static void promises8To11() {
        sentence("Of a DIAGRAM: THROUGH (what = 0), LOOPS of it CLOSED (1), it TURNED (2), how many HOOKS its WAY has"
                + " (3). UNKNOWN; OUTSIDE.");
        LoopStrands x = new LoopStrands();
        int[] want = {1, 1, 3, 2};
        for (int what = 0; what <= 3; what++) {
            due("of(2, " + what + ")", x.of(2, what), want[what]);
        }
        due("of(2, -1)", x.of(2, -1), OUTSIDE);
        due("of(2, 4)", x.of(2, 4), OUTSIDE);
        due("of(4, 0)", x.of(4, 0), 1);
        due("of(5, 0)", x.of(5, 0), UNKNOWN);
        due("of(-1, 0)", x.of(-1, 0), UNKNOWN);
        sentence("The POINT to which a POINT is joined by a DIAGRAM. UNKNOWN: both.");
        due("joined(4, 5)", x.joined(4, 5), 4);
        due("joined(4, 6)", x.joined(4, 6), UNKNOWN);
        due("joined(4, -1)", x.joined(4, -1), UNKNOWN);
        due("joined(5, 0)", x.joined(5, 0), UNKNOWN);
        due("joined(-1, 0)", x.joined(-1, 0), UNKNOWN);
        due("joined(5, 6)", x.joined(5, 6), UNKNOWN);
        sentence("STACKED, one DIAGRAM on another one: the DIAGRAM (what = 0), LOOPS (1). UNKNOWN: both; OUTSIDE.");
        due("stack(4, 4, 0)", x.stack(4, 4, 0), 4);
        due("stack(4, 4, 1)", x.stack(4, 4, 1), 1);
        due("stack(4, 4, 2)", x.stack(4, 4, 2), OUTSIDE);
        due("stack(4, 4, -1)", x.stack(4, 4, -1), OUTSIDE);
        due("stack(5, 4, 0)", x.stack(5, 4, 0), UNKNOWN);
        due("stack(4, 5, 0)", x.stack(4, 5, 0), UNKNOWN);
        due("stack(-1, 4, 1)", x.stack(-1, 4, 1), UNKNOWN);
        due("stack(4, -1, 1)", x.stack(4, -1, 1), UNKNOWN);
        sentence("The i-th HOOK, from 0 on, of the WAY to a DIAGRAM; NONE: there is none such (i below 0, too)."
                + " UNKNOWN.");
        due("way(2, -1)", x.way(2, -1), NONE);
        due("way(2, LOW)", x.way(2, LOW), NONE);
        due("way(2, 0)", x.way(2, 0), 2);
        due("way(2, 1)", x.way(2, 1), 1);
        due("way(2, 2)", x.way(2, 2), NONE);
        due("way(2, HIGH)", x.way(2, HIGH), NONE);
        due("ONE, way(0, 0)", x.way(0, 0), NONE);
        due("way(4, 0)", x.way(4, 0), 1);
        due("way(5, 0)", x.way(5, 0), UNKNOWN);
        due("way(-1, 0)", x.way(-1, 0), UNKNOWN);
    }

    private static void promises12To14() {
        sentence("PRIME and LOOP are told: PRIME that was.");
        LoopStrands x = new LoopStrands();
        due("prime(97, 96)", x.prime(97, 96), 97);
        due("prime(2, 1)", x.prime(2, 1), 97);
        due("prime(101, 100)", x.prime(101, 100), 2);
        sentence("OUTSIDE: the first is no prime, 2 to 101; LOOP is no NUMBER by it.");
        for (int bad : new int[] {1, 102, 103, 0, -2, 4, 100, LOW, HIGH}) {
            due("prime(" + bad + ", 0)", x.prime(bad, 0), OUTSIDE);
            due("prime(" + bad + ", " + bad + ")", x.prime(bad, bad), OUTSIDE);
        }
        for (int bad : new int[] {-1, 7, LOW, HIGH}) {
            due("prime(7, " + bad + ")", x.prime(7, bad), OUTSIDE);
        }
        due("count(2)", x.count(2), 101);
        due("count(3)", x.count(3), 100);
        sentence("The NUMBER of a DIAGRAM in the SUM of a SLOT is v (a NUMBER): which it was. UNKNOWN: both; OUTSIDE.");
        due("put(4, 4, 100)", x.put(4, 4, 100), 0);
        due("put(4, 4, 101)", x.put(4, 4, 101), OUTSIDE);
        due("put(4, 4, -1)", x.put(4, 4, -1), OUTSIDE);
        due("put(4, 4, 0)", x.put(4, 4, 0), 100);
        due("put(4, 4, 1)", x.put(4, 4, 1), 0);
        due("put(4, 5, 0)", x.put(4, 5, 0), UNKNOWN);
        due("put(4, -1, 0)", x.put(4, -1, 0), UNKNOWN);
        due("put(5, 4, 0)", x.put(5, 4, 0), UNKNOWN);
        due("put(-1, 4, 0)", x.put(-1, 4, 0), UNKNOWN);
        sentence("The NUMBER of a DIAGRAM in the SUM of a SLOT. UNKNOWN: both.");
        due("at(4, 4)", x.at(4, 4), 1);
        due("at(0, 4)", x.at(0, 4), 0);
        due("at(4, 0)", x.at(4, 0), 0);
        due("at(4, 5)", x.at(4, 5), UNKNOWN);
        due("at(4, -1)", x.at(4, -1), UNKNOWN);
        due("at(5, 4)", x.at(5, 4), UNKNOWN);
        due("at(-1, 4)", x.at(-1, 4), UNKNOWN);
        due("at(5, 5)", x.at(5, 5), UNKNOWN);
    }

    /** What both() answers for slots 0 and 1 is due for a SLOT that is itself one of the two, or both. */
    private static void promise15() {
        sentence("A SLOT holds, of two SUMS, both added, DIAGRAM by DIAGRAM (way = 0), the one less the other (1),"
                + " the one STACKED on the other (2)");
        int[][] sums = {{5, 4, 0, 2, 6}, {2, 0, 3, 6, 1}};
        int[][] onePlusOne = {{3, 1, 0, 4, 5}, {0, 0, 0, 0, 0}};
        for (int way = 0; way <= 2; way++) {
            LoopStrands x = withSums(sums);
            x.both(2, 0, 1, way);
            LoopStrands y = withSums(sums);
            y.both(0, 0, 1, way);
            LoopStrands z = withSums(sums);
            z.both(1, 0, 1, way);
            LoopStrands w = withSums(sums);
            w.both(2, 0, 0, way);
            LoopStrands v = withSums(sums);
            v.both(0, 0, 0, way);
            for (int d = 0; d < 5; d++) {
                due("the first is that SLOT, way " + way, y.at(0, d), x.at(2, d));
                due("the second is that SLOT, way " + way, z.at(1, d), x.at(2, d));
                due("both are that SLOT, way " + way, v.at(0, d), w.at(2, d));
                due("what is read stays, way " + way, x.at(0, d), sums[0][d]);
                due("what is read stays, way " + way, x.at(1, d), sums[1][d]);
                if (way < 2) {
                    due("one and itself, way " + way, v.at(0, d), onePlusOne[way][d]);
                }
            }
        }
        sentence("how many NUMBERS above 0. UNKNOWN: all three; OUTSIDE.");
        LoopStrands x = of(5);
        due("none", x.both(0, 1, 2, 0), 0);
        for (int d = 0; d < 42; d++) {
            x.put(0, d, 96);
        }
        due("all", x.both(1, 0, 2, 0), 42);
        due("none again", x.both(1, 1, 0, 1), 0);
        due("both(0, 0, 0, -1)", x.both(0, 0, 0, -1), OUTSIDE);
        due("both(0, 0, 0, 3)", x.both(0, 0, 0, 3), OUTSIDE);
        due("both(5, 0, 0, 0)", x.both(5, 0, 0, 0), UNKNOWN);
        due("both(0, 5, 0, 0)", x.both(0, 5, 0, 0), UNKNOWN);
        due("both(0, 0, 5, 0)", x.both(0, 0, 5, 0), UNKNOWN);
        due("both(-1, 0, 0, 2)", x.both(-1, 0, 0, 2), UNKNOWN);
        due("both(0, -1, 0, 2)", x.both(0, -1, 0, 2), UNKNOWN);
        due("both(0, 0, -1, 2)", x.both(0, 0, -1, 2), UNKNOWN);
    }

    private static LoopStrands withSums(int[][] sums) {
        LoopStrands x = of(3, 7, 3);
        for (int slot = 0; slot < sums.length; slot++) {
            for (int d = 0; d < 5; d++) {
                x.put(slot, d, sums[slot][d]);
            }
        }
        return x;
    }

    private static void promises16To18() {
        sentence("A SLOT holds a SUM of which each NUMBER is v (a NUMBER) times as great: how many NUMBERS above 0."
                + " UNKNOWN: both; OUTSIDE.");
        int[][] sums = {{5, 4, 0, 2, 6}};
        LoopStrands x = withSums(sums);
        due("times(1, 0, 6)", x.times(1, 0, 6), 4);
        due("times(1, 0, 7)", x.times(1, 0, 7), OUTSIDE);
        due("times(1, 0, -1)", x.times(1, 0, -1), OUTSIDE);
        for (int d = 0; d < 5; d++) {
            due("at(1, " + d + ")", x.at(1, d), sums[0][d] * 6 % 7);
        }
        due("times(0, 0, 6)", x.times(0, 0, 6), 4);
        due("the same SLOT, at(0, 4)", x.at(0, 4), 1);
        due("times(1, 0, 0)", x.times(1, 0, 0), 0);
        due("times(5, 0, 1)", x.times(5, 0, 1), UNKNOWN);
        due("times(0, 5, 1)", x.times(0, 5, 1), UNKNOWN);
        due("times(-1, 0, 1)", x.times(-1, 0, 1), UNKNOWN);
        due("times(0, -1, 1)", x.times(0, -1, 1), UNKNOWN);
        sentence("A SLOT holds a SUM with each DIAGRAM TURNED: how many NUMBERS above 0. UNKNOWN: both.");
        LoopStrands y = withSums(sums);
        due("turn(4, 0)", y.turn(4, 0), 4);
        due("turn(0, 0)", y.turn(0, 0), 4);
        int[] want = {5, 4, 2, 0, 6};
        for (int d = 0; d < 5; d++) {
            due("at(4, " + d + ")", y.at(4, d), want[d]);
            due("the same SLOT, at(0, " + d + ")", y.at(0, d), want[d]);
        }
        due("nothing, turn(4, 3)", y.turn(4, 3), 0);
        LoopStrands w = of(5);
        w.project(0, 5);
        w.turn(1, 0);
        w.strands(2);
        w.put(0, 1, 1);
        due("fewer DIAGRAMS than before, turn(1, 0)", w.turn(1, 0), 1);
        due("fewer DIAGRAMS than before, both(1, 0, 0, 2)", w.both(1, 0, 0, 2), 1);
        due("fewer DIAGRAMS than before, project(1, 2)", w.project(1, 2), 2);
        due("turn(5, 0)", y.turn(5, 0), UNKNOWN);
        due("turn(0, 5)", y.turn(0, 5), UNKNOWN);
        due("turn(-1, 0)", y.turn(-1, 0), UNKNOWN);
        due("turn(0, -1)", y.turn(0, -1), UNKNOWN);
        sentence("TRACE of the SUM of a SLOT. UNKNOWN.");
        LoopStrands z = withSums(sums);
        due("trace(0)", z.trace(0), (5 * 27 + 4 * 9 + 2 * 3 + 6 * 9) % 7);
        due("trace(4)", z.trace(4), 0);
        due("trace(5)", z.trace(5), UNKNOWN);
        due("trace(-1)", z.trace(-1), UNKNOWN);
        due("trace(LOW)", z.trace(LOW), UNKNOWN);
        due("trace(HIGH)", z.trace(HIGH), UNKNOWN);
    }

    private static void promises19To22() {
        sentence("BRACKET of k, 0 to 99. OUTSIDE.");
        LoopStrands x = of(3, 101, 2);
        due("bracket(-1)", x.bracket(-1), OUTSIDE);
        due("bracket(0)", x.bracket(0), 0);
        due("bracket(99)", x.bracket(99), 99);
        due("bracket(100)", x.bracket(100), OUTSIDE);
        due("bracket(LOW)", x.bracket(LOW), OUTSIDE);
        due("bracket(HIGH)", x.bracket(HIGH), OUTSIDE);
        sentence("UNKNOWN; OUTSIDE: n is not 1 to MANY; STATE: there is none.");
        due("project(0, 0)", x.project(0, 0), OUTSIDE);
        due("project(0, 1)", x.project(0, 1), 1);
        due("project(0, 3)", x.project(0, 3), 5);
        due("project(0, 4)", x.project(0, 4), OUTSIDE);
        due("project(5, 1)", x.project(5, 1), UNKNOWN);
        due("project(-1, 1)", x.project(-1, 1), UNKNOWN);
        x.prime(101, 1);
        due("project(4, 2)", x.project(4, 2), 2);
        due("project(4, 3)", x.project(4, 3), STATE);
        due("at(4, 0) stays", x.at(4, 0), 1);
        due("at(4, 4) stays", x.at(4, 4), 100);
        sentence("OUTSIDE: r is not 0 to MANY, or MANY less r is odd; what.");
        for (int r : new int[] {-1, 0, 2, 4, 5}) {
            for (int what = 0; what <= 2; what++) {
                due("cell(" + r + ", " + what + ")", x.cell(r, what), OUTSIDE);
            }
        }
        due("cell(1, -1)", x.cell(1, -1), OUTSIDE);
        due("cell(1, 3)", x.cell(1, 3), OUTSIDE);
        due("cell(1, 0)", x.cell(1, 0), 2);
        due("cell(3, 2)", x.cell(3, 2), 1);
        sentence("OUTSIDE: as with cell(); i, j.");
        for (int many = 1; many <= 5; many++) {
            LoopStrands y = of(many, 101, 1);
            for (int r = many; r >= 0; r -= 2) {
                int last = HALVES[many][r] - 1;
                String at = "MANY " + many + ", form(" + r + ", ";
                due(at + "last, last)", y.form(r, last, last), 1);
                due(at + "last and 1, 0)", y.form(r, last + 1, 0), OUTSIDE);
                due(at + "0, last and 1)", y.form(r, 0, last + 1), OUTSIDE);
                due(at + "-1, 0)", y.form(r, -1, 0), OUTSIDE);
                due(at + "0, -1)", y.form(r, 0, -1), OUTSIDE);
            }
            for (int r : new int[] {-2, -1, many - 1, many + 1, many + 2}) {
                due("MANY " + many + ", form(" + r + ", 0, 0)", y.form(r, 0, 0), OUTSIDE);
            }
        }
    }

    private static void promises23To25() {
        sentence("All but THE PAD and IMAGES is kept in an IMAGE (0, 1), in place of what was kept there: 1. OUTSIDE.");
        LoopStrands x = of(2, 5, 3);
        fillSlots(x);
        due("image(-1)", x.image(-1), OUTSIDE);
        due("image(2)", x.image(2), OUTSIDE);
        due("count(5)", x.count(5), 0);
        due("image(1)", x.image(1), 1);
        due("count(5)", x.count(5), 2);
        due("restore(0)", x.restore(0), STATE);
        x.strands(1);
        due("image(1) again", x.image(1), 1);
        x.strands(5);
        due("restore(1)", x.restore(1), 1);
        due("in place of what was kept, count(0)", x.count(0), 1);
        slotsHold("in place of what was kept", x, 0);
        sentence("All but THE PAD and IMAGES is as it was when it was kept; the IMAGE stays: 1. OUTSIDE; STATE:"
                + " nothing was kept in it.");
        LoopStrands y = told(of(2, 5, 3), "11");
        fillSlots(y);
        y.put(4, 1, 4);
        due("restore(0)", y.restore(0), STATE);
        due("image(0)", y.image(0), 1);
        due("restore(1)", y.restore(1), STATE);
        due("restore(-1)", y.restore(-1), OUTSIDE);
        due("restore(2)", y.restore(2), OUTSIDE);
        told(y, "1").put(4, 1, 2);
        y.strands(5);
        y.prime(101, 10);
        y.put(0, 41, 77);
        due("image(1)", y.image(1), 1);
        for (int again = 0; again < 2; again++) {
            due("restore(0)", y.restore(0), 1);
            int[] want = {2, 2, 5, 3, 1, 3};
            for (int what = 0; what <= 5; what++) {
                due("restored, count(" + what + ")", y.count(what), want[what]);
            }
            slotsHold("restored", y, 1);
            due("restored, at(4, 1)", y.at(4, 1), 4);
            due("restored, trace(4)", y.trace(4), (9 + 4 * 3) % 5);
            due("restored, form(0, 0, 0)", y.form(0, 0, 0), 3);
            due("restored, put(4, 1, 0)", y.put(4, 1, 0), 4);
        }
        due("restore(1)", y.restore(1), 1);
        due("at(0, 41)", y.at(0, 41), 77);
        due("bracket(2)", y.bracket(2), 10);
        due("trace(0)", y.trace(0), 77 * 1000 % 101);
        due("form(1, 0, 0)", y.form(1, 0, 0), 100);
        sentence("MANY (what = 0), DIAGRAMS (1), PRIME (2), LOOP (3), signs of THE PAD (4), which IMAGES are kept (5:"
                + " 1 the first, 2 the second, added). OUTSIDE.");
        LoopStrands z = new LoopStrands();
        due("count(-1)", z.count(-1), OUTSIDE);
        due("count(6)", z.count(6), OUTSIDE);
        due("count(LOW)", z.count(LOW), OUTSIDE);
        due("count(HIGH)", z.count(HIGH), OUTSIDE);
        due("none kept", z.count(5), 0);
        z.image(0);
        due("the first kept", z.count(5), 1);
        z.image(1);
        due("both kept", z.count(5), 3);
        z.image(1);
        due("both kept again", z.count(5), 3);
    }

    private static void terms() {
        lastCall();
        firstThatFits();
        noneLast();
        asThingsAreThen();
        many();
        points();
        arcs();
        numbersOfDiagrams();
        through();
        turned();
        stacked();
        closed();
        hooks();
        words();
        ways();
        pad();
        faults();
        moreMustCome();
        primes();
        wrapAround();
        loop();
        slots();
        slotsBecomeNothing();
        loopPowers();
        traces();
        brackets();
        projectors();
        noProjector();
        halves();
        orderOfHalves();
        forms();
        cells();
    }

    public static void main(String[] args) {
        terms();
        promises1To4();
        promises5To7();
        promises8To11();
        promises12To14();
        promise15();
        promises16To18();
        promises19To22();
        promises23To25();
        System.out.println(wrong == 0 ? "all edges hold" : wrong + " answers are not as due");
        if (wrong != 0) {
            System.exit(1);
        }
    }
}
