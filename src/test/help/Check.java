import java.util.ArrayList;
import java.util.EnumMap;
import java.util.List;
import java.util.Map;
import java.util.function.ToIntFunction;

/** What the tests extend: tests with a name, answers that are due, and calls that must change nothing. */
abstract class Check {
    static final int NONE = -1, UNKNOWN = -2, OUTSIDE = -3, STATE = -4, ROOM = -5;
    static final int SAME = 0, LONGER = 1, TAKEN = 2, BEFORE = 3, HAS = 4, SUM = 5, REPLACED = 6;
    static final int LEAST = Integer.MIN_VALUE, GREATEST = Integer.MAX_VALUE;

    /** The first wrong answers of a test tell enough. */
    private static final int MOST_TOLD = 5;
    private static final Map<Sample, List<String>> UNTOUCHED = new EnumMap<>(Sample.class);

    private static String test = "";
    private static int toldOfTest;
    private static int tests;
    private static int answers;
    private static int wrong;

    static void test(String name, Runnable body) {
        test = name;
        tests++;
        toldOfTest = 0;
        int before = answers;
        try {
            body.run();
        } catch (RuntimeException thrown) {
            tell("ended by " + thrown);
        }
        if (answers == before) {
            tell("asks nothing");
        }
    }

    private static void tell(String what) {
        wrong++;
        toldOfTest++;
        if (toldOfTest <= MOST_TOLD) {
            System.out.println("[" + test + "] " + what);
        }
    }

    static void due(String call, int got, int want) {
        answers++;
        if (got != want) {
            tell(call + " answered " + got + ", due is " + want);
        }
    }

    static void dueRow(String what, TextSolver x, int text, String want) {
        answers++;
        String got = rowOf(x, text);
        if (!got.equals(want)) {
            tell(what + ": text " + text + " is '" + got + "', due is '" + want + "'");
        }
    }

    static void dueTold(String what, TextSolver x, int... want) {
        for (int i = 0; i < want.length; i++) {
            due(what + ": told(" + i + ")", x.told(i), want[i]);
        }
    }

    static void dueCore(String what, TextSolver x, int... want) {
        for (int f = 0; f < want.length; f++) {
            due(what + ": inCore(" + f + ")", x.inCore(f), want[f]);
        }
    }

    /** Whether a formula over terms without letters that are open is so; denied it is the other way round. */
    static void dueSo(int letters, int kind, boolean want, Object... about) {
        TextSolver x = withLetters(letters);
        x.text(0);
        // Longer rows ahead of it must leave nothing behind.
        int longer = termOf(x, String.valueOf(letters - 1).repeat(6));
        x.formula(REPLACED, longer, longer, longer, longer);
        int[] numbers = new int[4];
        StringBuilder what = new StringBuilder("kind " + kind + " of");
        for (int i = 0; i < about.length; i++) {
            numbers[i] = about[i] instanceof Integer n ? n : termOf(x, (String) about[i]);
            what.append(" '").append(about[i]).append("'");
        }
        x.formula(kind, numbers[0], numbers[1], numbers[2], numbers[3]);
        due(what + ": models()", x.models(), want ? 1 : 0);
        due(what + ": solve()", x.solve(), want ? 1 : 0);
        x.deny(1, true);
        due(what + " denied: models()", x.models(), want ? 0 : 1);
        x.leave(1, true);
        x.solve();
        due(what + ": holds(1)", x.holds(1), want ? 1 : 0);
    }

    /** The models in their order, each told as its texts' rows with commas between. */
    static void dueModels(String what, TextSolver x, String... rows) {
        due(what + ": models()", x.models(), rows.length);
        for (int k = 0; k < rows.length; k++) {
            due(what + ": model(" + k + ")", x.model(k), 1);
            String[] each = rows[k].split(",", -1);
            for (int t = 0; t < each.length; t++) {
                dueRow(what + ": model " + k, x, t, each[t]);
            }
        }
        due(what + ": model(" + rows.length + ")", x.model(rows.length), 0);
    }

    /** A call that is refused answers what is due, and each sample is as one without that call. */
    static void refused(String what, int want, Sample[] samples, ToIntFunction<TextSolver> call) {
        for (Sample sample : samples) {
            TextSolver x = sample.make();
            due(what + " on " + sample, call.applyAsInt(x), want);
            dueEverything(what + " on " + sample, everything(x), untouched(sample));
        }
    }

    private static List<String> untouched(Sample sample) {
        return UNTOUCHED.computeIfAbsent(sample, s -> everything(s.make()));
    }

    interface Call {
        int on(TextSolver x, int number);
    }

    /** The same, with each number that is out of the bounds from a least one to a most one. */
    static void refusedOutside(String what, int want, Sample[] samples, int least, int most, Call call) {
        for (int number : outside(least, most)) {
            refused(what + " with " + number, want, samples, x -> call.on(x, number));
        }
    }

    /** The same, with each number of which there is no text, term, machine or formula in a sample. */
    static void refusedUnknown(String what, Sample[] samples, int toldAs, Call call) {
        for (Sample sample : samples) {
            int last = sample.make().told(toldAs) - 1;
            refusedOutside(what, UNKNOWN, new Sample[] {sample}, 0, last, call);
        }
    }

    static void dueEverything(String what, List<String> got, List<String> want) {
        answers++;
        for (int i = 0; i < want.size(); i++) {
            if (!got.get(i).equals(want.get(i))) {
                tell("behind " + what + ": " + got.get(i) + ", without it " + want.get(i));
                return;
            }
        }
    }

    /**
     * Answers that together tell the whole state. What only a change can tell (what is denied, where
     * a step leads) comes behind all that the change would hide.
     */
    static List<String> everything(TextSolver x) {
        List<String> seen = new ArrayList<>();
        for (int what = 0; what <= 6; what++) {
            seen.add("told(" + what + ") is " + x.told(what));
        }
        for (int t = 0; t < 4; t++) {
            seen.add("length(" + t + ") is " + x.length(t));
            for (int i = 0; i < 3; i++) {
                seen.add("letter(" + t + ", " + i + ") is " + x.letter(t, i));
            }
        }
        for (int f = 0; f < 10; f++) {
            seen.add("holds(" + f + ") is " + x.holds(f));
            seen.add("inCore(" + f + ") is " + x.inCore(f));
        }
        seen.add("models() is " + x.models());
        seen.add("spans() is " + x.spans());
        seeFormulas(seen, x);
        seeMachines(seen, x);
        seeRoom(seen, x);
        return seen;
    }

    private static void seeFormulas(List<String> seen, TextSolver x) {
        for (int f = 0; f < 10; f++) {
            seen.add("deny(" + f + ", false) is " + x.deny(f, false));
            seen.add("leave(" + f + ", true) is " + x.leave(f, true));
        }
        // Each formula alone: another one can no longer hide what has become of it.
        int formulas = x.told(4);
        for (int f = 0; f < formulas; f++) {
            x.leave(f, false);
            seen.add("models() of formula " + f + " is " + x.models());
            x.leave(f, true);
        }
    }

    private static void seeMachines(List<String> seen, TextSolver x) {
        int letters = x.told(0);
        for (int m = 0; m < 3; m++) {
            for (int other = 0; other < 3; other++) {
                seen.add("meet(" + m + ", " + other + ") is " + x.meet(m, other));
            }
            for (int state = 0; state < 6; state++) {
                seen.add("good(" + m + ", " + state + ", true) is " + x.good(m, state, true));
                for (int letter = 0; letter < letters; letter++) {
                    seen.add("step(" + m + ", " + state + ", " + letter + ", 0) is " + x.step(m, state, letter, 0));
                }
            }
        }
    }

    private static void seeRoom(List<String> seen, TextSolver x) {
        int terms = x.told(2);
        for (int term = 0; term < terms; term++) {
            seen.add("part(" + term + ", 0) is " + x.part(term, 0));
        }
        seen.add("text(1) is " + x.text(1));
        seen.add("told(5) is " + x.told(5));
        seen.add("term() is " + x.term());
        seen.add("machine(1) is " + x.machine(1));
        seen.add("formula(0, 0, 0, 0, 0) is " + x.formula(SAME, 0, 0, 0, 0));
        seen.add("clear(2) is " + x.clear(2));
    }

    /** The nearest numbers out of bounds, the farthest, and some that look inside when bits are cut off. */
    static int[] outside(int least, int most) {
        List<Integer> numbers = new ArrayList<>(List.of(LEAST, LEAST + 1, least - 1, most + 1, GREATEST - 1, GREATEST));
        for (int bits : new int[] {5, 6, 8, 16, 31}) {
            int looksInside = least + (1 << bits);
            if (looksInside < least - 1 || looksInside > most + 1) {
                numbers.add(looksInside);
            }
        }
        return numbers.stream().mapToInt(Integer::intValue).toArray();
    }

    static TextSolver withLetters(int letters) {
        TextSolver x = new TextSolver();
        x.clear(letters);
        return x;
    }

    /** A ring of states: each letter leads to the next one, behind the last one comes the first. */
    static int ringOf(TextSolver x, int states, int good) {
        int machine = x.machine(states);
        int letters = x.told(0);
        for (int state = 0; state < states; state++) {
            for (int letter = 0; letter < letters; letter++) {
                x.step(machine, state, letter, (state + 1) % states);
            }
        }
        x.good(machine, good, true);
        return machine;
    }

    /** A term from digits (letters) and x, y, z, w (texts 0 to 3). */
    static int termOf(TextSolver x, String parts) {
        int term = x.term();
        for (char part : parts.toCharArray()) {
            x.part(term, part <= '9' ? part - '0' : 8 + "xyzw".indexOf(part));
        }
        return term;
    }

    static String rowOf(TextSolver x, int text) {
        StringBuilder row = new StringBuilder();
        int length = x.length(text);
        for (int i = 0; i < length; i++) {
            row.append(x.letter(text, i));
        }
        return row.toString();
    }

    static void end() {
        System.out.println(wrong == 0
            ? "all " + answers + " answers of " + tests + " tests are as due"
            : wrong + " answers are not as due");
        if (wrong != 0) {
            System.exit(1);
        }
    }
}
