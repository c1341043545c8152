import java.math.BigInteger;
import java.util.ArrayList;
import java.util.Arrays;
import java.util.List;
import java.util.Random;

/**
 * Runs of random calls, answered by TextSolver and by a plain reading of the document that makes
 * every row of letters, sorts all ways to give them, and tries each formula on each way.
 */
public final class OracleTest {
    private static final int NONE = -1, UNKNOWN = -2, OUTSIDE = -3, STATE = -4, ROOM = -5;
    private static final int RUNS = 1000, MOST_CALLS = 512, MOST_TOLD = 20;

    private static final class Formula {
        int kind, a, b, c, d;
        boolean denied, left;
    }

    private static final class Machine {
        int[][] steps;
        boolean[] good;

        boolean takes(String row) {
            int state = 0;
            for (char letter : row.toCharArray()) {
                state = steps[state][letter - '0'];
            }
            return good[state];
        }
    }

    private static final class Oracle {
        int letters = 2;
        final List<Integer> texts = new ArrayList<>();
        final List<List<Integer>> terms = new ArrayList<>();
        final List<Machine> machines = new ArrayList<>();
        final List<Formula> formulas = new ArrayList<>();
        String[] atHand;
        List<Integer> core;
        List<String[]> models;
        /** The ways and for which letters and texts they were made: making them takes long. */
        List<String[]> ways;
        String waysOf = "";

        void changed() {
            atHand = null;
            core = null;
            models = null;
        }

        static boolean in(int number, List<?> list) {
            return number >= 0 && number < list.size();
        }

        List<String> rows(int most) {
            List<String> rows = new ArrayList<>(List.of(""));
            for (int i = 0; i < rows.size(); i++) {
                if (rows.get(i).length() < most) {
                    for (int letter = 0; letter < letters; letter++) {
                        rows.add(rows.get(i) + letter);
                    }
                }
            }
            return rows;
        }

        int space() {
            int space = 1;
            for (int most : texts) {
                space *= rows(most).size();
            }
            return space;
        }

        List<String[]> ways() {
            String wanted = letters + " " + texts;
            if (!wanted.equals(waysOf)) {
                ways = makeWays();
                waysOf = wanted;
            }
            return ways;
        }

        List<String[]> makeWays() {
            List<String[]> ways = new ArrayList<>();
            ways.add(new String[0]);
            for (int most : texts) {
                List<String[]> longer = new ArrayList<>();
                for (String[] way : ways) {
                    for (String row : rows(most)) {
                        String[] more = Arrays.copyOf(way, way.length + 1);
                        more[way.length] = row;
                        longer.add(more);
                    }
                }
                ways = longer;
            }
            ways.sort(Oracle::compare);
            return ways;
        }

        static int compare(String[] one, String[] other) {
            for (int t = 0; t < one.length; t++) {
                if (one[t].length() != other[t].length()) {
                    return Integer.compare(one[t].length(), other[t].length());
                }
            }
            return String.join("", one).compareTo(String.join("", other));
        }

        String row(int term, String[] way) {
            StringBuilder row = new StringBuilder();
            for (int part : terms.get(term)) {
                row.append(part < 8 ? String.valueOf(part) : way[part - 8]);
            }
            return row.toString();
        }

        boolean isSo(Formula f, String[] way) {
            String a = row(f.a, way);
            switch (f.kind) {
                case 0:
                    return a.equals(row(f.b, way));
                case 1:
                    return a.length() >= (f.b == NONE ? 0 : row(f.b, way).length()) + f.c;
                case 2:
                    return machines.get(f.b).takes(a);
                case 3:
                    return a.compareTo(row(f.b, way)) < 0;
                case 4:
                    return a.contains(row(f.b, way));
                case 5:
                    BigInteger h = BigInteger.ZERO;
                    for (char letter : a.toCharArray()) {
                        h = h.multiply(BigInteger.valueOf(31)).add(BigInteger.valueOf(letter - '0' + 1));
                    }
                    BigInteger less = BigInteger.valueOf(h.intValue()).subtract(BigInteger.valueOf(f.c));
                    return less.mod(BigInteger.valueOf(f.b)).signum() == 0;
                default:
                    String b = row(f.b, way);
                    String c = row(f.c, way);
                    int at = b.indexOf(c);
                    return a.equals(at < 0 ? b : b.substring(0, at) + row(f.d, way) + b.substring(at + c.length()));
            }
        }

        boolean isModel(String[] way, List<Integer> members) {
            for (int f : members) {
                if (isSo(formulas.get(f), way) == formulas.get(f).denied) {
                    return false;
                }
            }
            return true;
        }

        List<Integer> counting() {
            List<Integer> members = new ArrayList<>();
            for (int f = 0; f < formulas.size(); f++) {
                if (!formulas.get(f).left) {
                    members.add(f);
                }
            }
            return members;
        }

        List<String[]> allModels() {
            if (models == null) {
                models = new ArrayList<>();
                List<Integer> members = counting();
                for (String[] way : ways()) {
                    if (isModel(way, members)) {
                        models.add(way);
                    }
                }
            }
            return models;
        }

        int clear(int newLetters) {
            if (newLetters != 2 && newLetters != 3) {
                return OUTSIDE;
            }
            int before = formulas.size();
            letters = newLetters;
            texts.clear();
            terms.clear();
            machines.clear();
            formulas.clear();
            changed();
            return before;
        }

        int text(int most) {
            if (most < 0 || most > 5) {
                return OUTSIDE;
            }
            if (texts.size() == 4 || space() * rows(most).size() > 8000) {
                return ROOM;
            }
            texts.add(most);
            changed();
            return texts.size() - 1;
        }

        int term() {
            if (terms.size() == 12) {
                return ROOM;
            }
            terms.add(new ArrayList<>());
            changed();
            return terms.size() - 1;
        }

        int part(int term, int what) {
            if (!in(term, terms)) {
                return UNKNOWN;
            }
            if (what < 0 || what >= letters && what < 8 || what >= 8 && what - 8 >= texts.size()) {
                return OUTSIDE;
            }
            if (terms.get(term).size() == 6) {
                return ROOM;
            }
            terms.get(term).add(what);
            changed();
            return terms.get(term).size();
        }

        int machine(int states) {
            if (states < 1 || states > 6) {
                return OUTSIDE;
            }
            if (machines.size() == 3) {
                return ROOM;
            }
            Machine machine = new Machine();
            machine.steps = new int[states][letters];
            machine.good = new boolean[states];
            machines.add(machine);
            changed();
            return machines.size() - 1;
        }

        int step(int machine, int state, int letter, int to) {
            if (!in(machine, machines)) {
                return UNKNOWN;
            }
            int[][] steps = machines.get(machine).steps;
            if (state < 0 || state >= steps.length || letter < 0 || letter >= letters || to < 0 || to >= steps.length) {
                return OUTSIDE;
            }
            int before = steps[state][letter];
            steps[state][letter] = to;
            changed();
            return before;
        }

        int good(int machine, int state, boolean is) {
            if (!in(machine, machines)) {
                return UNKNOWN;
            }
            boolean[] good = machines.get(machine).good;
            if (state < 0 || state >= good.length) {
                return OUTSIDE;
            }
            int before = good[state] ? 1 : 0;
            good[state] = is;
            changed();
            return before;
        }

        int formula(int kind, int a, int b, int c, int d) {
            if (kind < 0 || kind > 6) {
                return OUTSIDE;
            }
            boolean known = in(a, terms);
            if (kind == 0 || kind == 3 || kind == 4 || kind == 6) {
                known &= in(b, terms);
            }
            if (kind == 1) {
                known &= b == NONE || in(b, terms);
            }
            if (kind == 2) {
                known &= in(b, machines);
            }
            if (kind == 6) {
                known &= in(c, terms) && in(d, terms);
            }
            if (!known) {
                return UNKNOWN;
            }
            if (kind == 1 && (c < -40 || c > 40) || kind == 5 && (b < 2 || b > 16 || c < 0 || c >= b)) {
                return OUTSIDE;
            }
            if (formulas.size() == 10) {
                return ROOM;
            }
            Formula made = new Formula();
            made.kind = kind;
            made.a = a;
            made.b = b;
            made.c = c;
            made.d = d;
            formulas.add(made);
            changed();
            return formulas.size() - 1;
        }

        int deny(int formula, boolean is) {
            if (!in(formula, formulas)) {
                return UNKNOWN;
            }
            int before = formulas.get(formula).denied ? 1 : 0;
            formulas.get(formula).denied = is;
            changed();
            return before;
        }

        int leave(int formula, boolean is) {
            if (!in(formula, formulas)) {
                return UNKNOWN;
            }
            int before = formulas.get(formula).left ? 1 : 0;
            formulas.get(formula).left = is;
            changed();
            return before;
        }

        int model(int k) {
            if (!in(k, allModels())) {
                return 0;
            }
            atHand = allModels().get(k);
            return 1;
        }

        int length(int text) {
            return !in(text, texts) ? UNKNOWN : atHand == null ? STATE : atHand[text].length();
        }

        int letter(int text, int i) {
            if (!in(text, texts)) {
                return UNKNOWN;
            }
            if (atHand == null) {
                return STATE;
            }
            return i < 0 || i >= atHand[text].length() ? NONE : atHand[text].charAt(i) - '0';
        }

        int holds(int formula) {
            if (!in(formula, formulas)) {
                return UNKNOWN;
            }
            return atHand == null ? STATE : isSo(formulas.get(formula), atHand) ? 1 : 0;
        }

        int core() {
            if (!allModels().isEmpty()) {
                return STATE;
            }
            List<String[]> ways = ways();
            List<Integer> members = counting();
            for (int i = members.size() - 1; i >= 0; i--) {
                List<Integer> fewer = new ArrayList<>(members);
                fewer.remove(i);
                if (ways.stream().noneMatch(way -> isModel(way, fewer))) {
                    members = fewer;
                }
            }
            core = members;
            return members.size();
        }

        int inCore(int formula) {
            return !in(formula, formulas) ? UNKNOWN : core == null ? STATE : core.contains(formula) ? 1 : 0;
        }

        int spans() {
            int count = 0;
            int all = 1;
            for (int most : texts) {
                all *= most + 1;
            }
            for (int n = 0; n < all; n++) {
                String[] way = new String[texts.size()];
                int rest = n;
                for (int t = 0; t < way.length; t++) {
                    way[t] = "0".repeat(rest % (texts.get(t) + 1));
                    rest /= texts.get(t) + 1;
                }
                count += isSpan(way) ? 1 : 0;
            }
            return count;
        }

        boolean isSpan(String[] way) {
            for (Formula f : formulas) {
                if (!f.left && f.kind == 1 && isSo(f, way) == f.denied) {
                    return false;
                }
                if (!f.left && f.kind == 0 && !f.denied && row(f.a, way).length() != row(f.b, way).length()) {
                    return false;
                }
            }
            return true;
        }

        int meet(int machine, int other) {
            if (!in(machine, machines) || !in(other, machines)) {
                return UNKNOWN;
            }
            Machine one = machines.get(machine);
            Machine two = machines.get(other);
            List<int[]> queue = new ArrayList<>();
            boolean[][] seen = new boolean[6][6];
            queue.add(new int[] {0, 0, 0});
            seen[0][0] = true;
            for (int i = 0; i < queue.size(); i++) {
                int[] at = queue.get(i);
                if (one.good[at[0]] && two.good[at[1]]) {
                    return at[2];
                }
                for (int letter = 0; letter < letters; letter++) {
                    int p = one.steps[at[0]][letter];
                    int q = two.steps[at[1]][letter];
                    if (!seen[p][q]) {
                        seen[p][q] = true;
                        queue.add(new int[] {p, q, at[2] + 1});
                    }
                }
            }
            return NONE;
        }

        int told(int what) {
            int[] all = {letters, texts.size(), terms.size(), machines.size(), formulas.size(), space(),
                atHand == null ? 0 : 1};
            return what < 0 || what >= all.length ? OUTSIDE : all[what];
        }
    }

    private final Random random;
    private final TextSolver solver = new TextSolver();
    private final Oracle oracle = new Oracle();
    private final List<String> calls = new ArrayList<>();
    /** Every tenth run is one of many odd numbers. */
    private final int oneIsOddOf;
    private boolean isWrong;

    private OracleTest(int seed) {
        random = new Random(seed);
        oneIsOddOf = seed % 10 == 9 ? 4 : 40;
    }

    private void due(String call, int got, int want) {
        calls.add(call + " = " + got);
        if (got != want) {
            isWrong = true;
            System.out.println(call + " answered " + got + ", due is " + want);
        }
    }

    /** A number below a bound, now and then one next to it or far from it. */
    private int about(int bound) {
        if (random.nextInt(oneIsOddOf) == 0) {
            int[] odd = {-1, -2, bound, bound + 1, 7, 8, 32, 64, Integer.MAX_VALUE, Integer.MIN_VALUE,
                Integer.MAX_VALUE - random.nextInt(50), Integer.MIN_VALUE + random.nextInt(50), random.nextInt()};
            return odd[random.nextInt(odd.length)];
        }
        return bound <= 0 ? 0 : random.nextInt(bound);
    }

    private int termNumber() {
        return about(oracle.terms.size());
    }

    private int randomPart() {
        return random.nextBoolean() ? about(oracle.letters) : 8 + about(oracle.texts.size());
    }

    private void part() {
        int term = termNumber();
        int what = randomPart();
        due("part(" + term + ", " + what + ")", solver.part(term, what), oracle.part(term, what));
    }

    private void formula() {
        int kind = about(7);
        int a = termNumber();
        int b = termNumber();
        int c = termNumber();
        int d = termNumber();
        if (kind == 1) {
            b = random.nextInt(3) == 0 ? NONE : b;
            c = random.nextInt(12) == 0 ? about(90) - 45 : random.nextInt(7) - 3;
        } else if (kind == 2) {
            b = about(oracle.machines.size());
        } else if (kind == 5) {
            b = random.nextInt(12) == 0 ? about(20) : 2 + random.nextInt(4);
            c = about(b);
        }
        due("formula(" + kind + ", " + a + ", " + b + ", " + c + ", " + d + ")",
            solver.formula(kind, a, b, c, d), oracle.formula(kind, a, b, c, d));
    }

    private void text() {
        int most = random.nextInt(10) == 0 ? about(8) - 1 : random.nextInt(4);
        due("text(" + most + ")", solver.text(most), oracle.text(most));
    }

    private void step() {
        int machine = about(oracle.machines.size());
        int states = machine >= 0 && machine < oracle.machines.size() ? oracle.machines.get(machine).good.length : 1;
        int state = about(states);
        int letter = about(oracle.letters);
        int to = about(states);
        due("step(" + machine + ", " + state + ", " + letter + ", " + to + ")",
            solver.step(machine, state, letter, to), oracle.step(machine, state, letter, to));
    }

    private void good() {
        int machine = about(oracle.machines.size());
        int states = machine >= 0 && machine < oracle.machines.size() ? oracle.machines.get(machine).good.length : 1;
        int state = about(states);
        boolean is = random.nextBoolean();
        due("good(" + machine + ", " + state + ", " + is + ")",
            solver.good(machine, state, is), oracle.good(machine, state, is));
    }

    private void change() {
        int f = about(oracle.formulas.size());
        boolean is = random.nextBoolean();
        switch (random.nextInt(20)) {
            case 0: case 1:
                text();
                break;
            case 2: case 3: case 4:
                due("term()", solver.term(), oracle.term());
                break;
            case 5: case 6: case 7: case 8:
                part();
                break;
            case 9:
                int states = about(8);
                due("machine(" + states + ")", solver.machine(states), oracle.machine(states));
                break;
            case 10: case 11:
                step();
                break;
            case 12:
                good();
                break;
            case 13: case 14: case 15:
                formula();
                break;
            case 16: case 17:
                due("deny(" + f + ", " + is + ")", solver.deny(f, is), oracle.deny(f, is));
                break;
            case 18:
                due("leave(" + f + ", " + is + ")", solver.leave(f, is), oracle.leave(f, is));
                break;
            default:
                if (random.nextInt(4) == 0) {
                    int letters = 1 + about(4);
                    due("clear(" + letters + ")", solver.clear(letters), oracle.clear(letters));
                }
        }
    }

    /** Most random formulas have no model together: leave some out, so that models are seen too. */
    private void makeRoomForModels() {
        for (int f = 0; f < oracle.formulas.size() && oracle.allModels().isEmpty() && calls.size() < MOST_CALLS - 3;
                f++) {
            if (!oracle.formulas.get(f).left && random.nextBoolean()) {
                boolean isLeft = random.nextBoolean();
                due("leave(" + f + ", " + isLeft + ")", solver.leave(f, isLeft), oracle.leave(f, isLeft));
                due("deny(" + f + ", " + !isLeft + ")", solver.deny(f, !isLeft), oracle.deny(f, !isLeft));
            }
        }
        due("solve()", solver.solve(), oracle.model(0));
    }

    private void ask() {
        int f = about(oracle.formulas.size());
        int t = about(oracle.texts.size());
        switch (random.nextInt(11)) {
            case 0:
                due("solve()", solver.solve(), oracle.model(0));
                break;
            case 1:
                int k = about(oracle.allModels().size());
                due("model(" + k + ")", solver.model(k), oracle.model(k));
                break;
            case 2:
                due("models()", solver.models(), oracle.allModels().size());
                break;
            case 3:
                due("length(" + t + ")", solver.length(t), oracle.length(t));
                break;
            case 4:
                int i = about(4);
                due("letter(" + t + ", " + i + ")", solver.letter(t, i), oracle.letter(t, i));
                break;
            case 5:
                due("holds(" + f + ")", solver.holds(f), oracle.holds(f));
                break;
            case 6:
                due("core()", solver.core(), oracle.core());
                break;
            case 7:
                due("inCore(" + f + ")", solver.inCore(f), oracle.inCore(f));
                break;
            case 8:
                due("spans()", solver.spans(), oracle.spans());
                break;
            case 9:
                int one = about(oracle.machines.size());
                int two = about(oracle.machines.size());
                due("meet(" + one + ", " + two + ")", solver.meet(one, two), oracle.meet(one, two));
                break;
            default:
                int what = about(7);
                due("told(" + what + ")", solver.told(what), oracle.told(what));
        }
    }

    private void run(int changes) {
        while (calls.size() < MOST_CALLS && !isWrong) {
            if (calls.size() < changes || random.nextInt(8) == 0) {
                change();
            } else if (random.nextInt(10) == 0) {
                makeRoomForModels();
            } else {
                ask();
            }
        }
    }

    public static void main(String[] args) {
        int wrong = 0;
        for (int seed = 0; seed < RUNS; seed++) {
            OracleTest test = new OracleTest(seed);
            test.run(20 + seed % 5 * 20);
            if (test.isWrong) {
                wrong++;
                int from = Math.max(0, test.calls.size() - MOST_TOLD);
                System.out.println("run " + seed + ", its last calls: " + test.calls.subList(from, test.calls.size()));
            }
        }
        System.out.println(wrong == 0
            ? "all " + RUNS + " random runs are as due"
            : wrong + " random runs are not as due");
        if (wrong != 0) {
            System.exit(1);
        }
    }
}
