import java.util.Arrays;

/**
 * Formulas over texts that are not known. The space of all ways to fill the texts is small, so each
 * formula keeps bits, one for each way in the models' order: where it was judged, and where it is so.
 * Every question about models is asked of these bits, and a formula is judged only where they are
 * not known yet and no other formula has ruled the way out.
 */
public final class TextSolver {
    public static final int NONE = -1, UNKNOWN = -2, OUTSIDE = -3, STATE = -4, ROOM = -5;

    private static final int FEWEST_LETTERS = 2, MOST_LETTERS = 3;
    private static final int MOST_TEXTS = 4, MOST_LENGTH = 5, MOST_SPACE = 8000;
    private static final int MOST_TERMS = 12, MOST_PARTS = 6, FIRST_TEXT = 8;
    private static final int MOST_MACHINES = 3, MOST_STATES = 6, PAIRS = MOST_STATES * MOST_STATES;
    private static final int MOST_FORMULAS = 10;
    private static final int LEAST_LONGER = -40, MOST_LONGER = 40;
    private static final int LEAST_DIVISOR = 2, MOST_DIVISOR = 16;
    private static final int SAME = 0, LONGER = 1, TAKEN = 2, BEFORE = 3, HAS = 4, SUM = 5, REPLACED = 6;
    private static final int WORD = 64, MOST_WORDS = (MOST_SPACE + WORD - 1) / WORD;

    private final Space space = new Space();
    private final Way tried = new Way(space);
    private final Way atHand = new Way(space);
    private final Term[] terms = new Term[MOST_TERMS];
    private final Machine[] machines = new Machine[MOST_MACHINES];
    private final Formula[] formulas = new Formula[MOST_FORMULAS];
    private final Judge judge = new Judge(terms, machines);
    private int termCount;
    private int machineCount;
    private int formulaCount;
    private boolean isModelAtHand;
    private boolean isCoreFound;
    /** Bit f: formula f is in the core that was found. */
    private int coreMembers;

    public TextSolver() {
        for (int i = 0; i < MOST_TERMS; i++) {
            terms[i] = new Term();
        }
        for (int i = 0; i < MOST_MACHINES; i++) {
            machines[i] = new Machine();
        }
        for (int i = 0; i < MOST_FORMULAS; i++) {
            formulas[i] = new Formula();
        }
    }

    public int clear(int letters) {
        if (letters < FEWEST_LETTERS || letters > MOST_LETTERS) {
            return OUTSIDE;
        }
        int before = formulaCount;
        space.restart(letters);
        termCount = 0;
        machineCount = 0;
        formulaCount = 0;
        dropWays();
        dropFindings();
        return before;
    }

    public int text(int most) {
        if (most < 0 || most > MOST_LENGTH) {
            return OUTSIDE;
        }
        if (!space.hasRoomFor(most)) {
            return ROOM;
        }
        space.add(most);
        dropWays();
        dropFindings();
        return space.texts - 1;
    }

    public int term() {
        if (termCount >= MOST_TERMS) {
            return ROOM;
        }
        terms[termCount].restart();
        termCount++;
        dropFindings();
        return termCount - 1;
    }

    public int part(int term, int what) {
        if (!isTerm(term)) {
            return UNKNOWN;
        }
        if (!space.isLetter(what) && !(what >= FIRST_TEXT && space.isText(what - FIRST_TEXT))) {
            return OUTSIDE;
        }
        if (!terms[term].add(what)) {
            return ROOM;
        }
        for (int f = 0; f < formulaCount; f++) {
            if (formulas[f].isAboutTerm(term)) {
                formulas[f].forget();
            }
        }
        dropFindings();
        return terms[term].size;
    }

    public int machine(int states) {
        if (states < 1 || states > MOST_STATES) {
            return OUTSIDE;
        }
        if (machineCount >= MOST_MACHINES) {
            return ROOM;
        }
        machines[machineCount].restart(states);
        machineCount++;
        dropFindings();
        return machineCount - 1;
    }

    public int step(int machine, int state, int letter, int to) {
        if (!isMachine(machine)) {
            return UNKNOWN;
        }
        Machine changed = machines[machine];
        if (!changed.isState(state) || !space.isLetter(letter) || !changed.isState(to)) {
            return OUTSIDE;
        }
        int before = changed.next(state, letter);
        changed.lead(state, letter, to);
        dropFindingsOfMachine(machine);
        return before;
    }

    public int good(int machine, int state, boolean is) {
        if (!isMachine(machine)) {
            return UNKNOWN;
        }
        Machine changed = machines[machine];
        if (!changed.isState(state)) {
            return OUTSIDE;
        }
        int before = asNumber(changed.isGood(state));
        changed.setGood(state, is);
        dropFindingsOfMachine(machine);
        return before;
    }

    public int formula(int kind, int a, int b, int c, int d) {
        if (kind < SAME || kind > REPLACED) {
            return OUTSIDE;
        }
        if (!isTerm(a) || !areOthersKnown(kind, b, c, d)) {
            return UNKNOWN;
        }
        if (!areNumbersInside(kind, b, c)) {
            return OUTSIDE;
        }
        if (formulaCount >= MOST_FORMULAS) {
            return ROOM;
        }
        formulas[formulaCount].restart(kind, a, b, c, d);
        formulaCount++;
        dropFindings();
        return formulaCount - 1;
    }

    public int deny(int formula, boolean is) {
        if (!isFormula(formula)) {
            return UNKNOWN;
        }
        int before = asNumber(formulas[formula].isDenied);
        formulas[formula].isDenied = is;
        dropFindings();
        return before;
    }

    public int leave(int formula, boolean is) {
        if (!isFormula(formula)) {
            return UNKNOWN;
        }
        int before = asNumber(formulas[formula].isLeftOut);
        formulas[formula].isLeftOut = is;
        dropFindings();
        return before;
    }

    public int solve() {
        return takeInHand(0);
    }

    public int model(int k) {
        return takeInHand(k);
    }

    public int models() {
        int members = countingFormulas();
        int count = 0;
        for (int word = 0; word < MOST_WORDS; word++) {
            count += Long.bitCount(modelsIn(word, members));
        }
        return count;
    }

    public int length(int text) {
        if (!space.isText(text)) {
            return UNKNOWN;
        }
        return isModelAtHand ? atHand.lengthOf(text) : STATE;
    }

    public int letter(int text, int i) {
        if (!space.isText(text)) {
            return UNKNOWN;
        }
        return isModelAtHand ? atHand.letterOf(text, i) : STATE;
    }

    public int holds(int formula) {
        if (!isFormula(formula)) {
            return UNKNOWN;
        }
        return isModelAtHand ? asNumber(judge.isSo(formulas[formula], atHand)) : STATE;
    }

    public int core() {
        int members = countingFormulas();
        if (hasModel(members)) {
            return STATE;
        }
        for (int f = formulaCount - 1; f >= 0; f--) {
            int fewer = members & ~(1 << f);
            if (!hasModel(fewer)) {
                members = fewer;
            }
        }
        coreMembers = members;
        isCoreFound = true;
        return Integer.bitCount(members);
    }

    public int inCore(int formula) {
        if (!isFormula(formula)) {
            return UNKNOWN;
        }
        return isCoreFound ? asNumber(isIn(coreMembers, formula)) : STATE;
    }

    public int spans() {
        int count = 0;
        tried.restart();
        int all = space.lengthWays();
        for (int n = 0; n < all; n++) {
            if (areLengthsFit()) {
                count++;
            }
            tried.goToNextLengths();
        }
        return count;
    }

    public int meet(int machine, int other) {
        if (!isMachine(machine) || !isMachine(other)) {
            return UNKNOWN;
        }
        return machines[machine].shortestWith(machines[other], space.letters);
    }

    public int told(int what) {
        switch (what) {
            case 0:
                return space.letters;
            case 1:
                return space.texts;
            case 2:
                return termCount;
            case 3:
                return machineCount;
            case 4:
                return formulaCount;
            case 5:
                return space.size;
            case 6:
                return asNumber(isModelAtHand);
            default:
                return OUTSIDE;
        }
    }

    private static int asNumber(boolean is) {
        return is ? 1 : 0;
    }

    private static boolean isIn(int members, int f) {
        return (members >> f & 1) != 0;
    }

    private boolean isTerm(int number) {
        return number >= 0 && number < termCount;
    }

    private boolean isMachine(int number) {
        return number >= 0 && number < machineCount;
    }

    private boolean isFormula(int number) {
        return number >= 0 && number < formulaCount;
    }

    private boolean areOthersKnown(int kind, int b, int c, int d) {
        switch (kind) {
            case LONGER:
                return b == NONE || isTerm(b);
            case TAKEN:
                return isMachine(b);
            case SUM:
                return true;
            case REPLACED:
                return isTerm(b) && isTerm(c) && isTerm(d);
            default:
                return isTerm(b);
        }
    }

    private static boolean areNumbersInside(int kind, int b, int c) {
        switch (kind) {
            case LONGER:
                return c >= LEAST_LONGER && c <= MOST_LONGER;
            case SUM:
                return b >= LEAST_DIVISOR && b <= MOST_DIVISOR && c >= 0 && c < b;
            default:
                return true;
        }
    }

    private void dropFindings() {
        isModelAtHand = false;
        isCoreFound = false;
    }

    private void dropFindingsOfMachine(int machine) {
        for (int f = 0; f < formulaCount; f++) {
            if (formulas[f].isAboutMachine(machine)) {
                formulas[f].forget();
            }
        }
        dropFindings();
    }

    /** The numbers of the ways have become other ones. */
    private void dropWays() {
        tried.restart();
        atHand.restart();
        for (int f = 0; f < formulaCount; f++) {
            formulas[f].forget();
        }
    }

    private int takeInHand(int k) {
        int members = countingFormulas();
        int ahead = k;
        for (int word = 0; word < MOST_WORDS && ahead >= 0; word++) {
            long ways = modelsIn(word, members);
            int count = Long.bitCount(ways);
            if (ahead < count) {
                atHand.goTo(word * WORD + placeOfBit(ways, ahead));
                isModelAtHand = true;
                return 1;
            }
            ahead -= count;
        }
        return 0;
    }

    /** Bit f: formula f is not left out. */
    private int countingFormulas() {
        int members = 0;
        for (int f = 0; f < formulaCount; f++) {
            if (!formulas[f].isLeftOut) {
                members |= 1 << f;
            }
        }
        return members;
    }

    /** Behind the end of the space there are none, whatever is denied. */
    private long waysIn(int word) {
        int left = space.size - word * WORD;
        if (left <= 0) {
            return 0L;
        }
        return left >= WORD ? -1L : (1L << left) - 1L;
    }

    private long modelsIn(int word, int members) {
        long ways = waysIn(word);
        long open = 0L;
        for (int f = 0; f < formulaCount && ways != 0L; f++) {
            if (isIn(members, f)) {
                ways &= ~formulas[f].ruledOut(word);
                open |= formulas[f].notJudged(word);
            }
        }
        open &= ways;
        for (int i = 0; i < WORD && open >>> i != 0L; i++) {
            if ((open >>> i & 1L) != 0L && !isModel(word * WORD + i, members)) {
                ways &= ~(1L << i);
            }
        }
        return ways;
    }

    private boolean isModel(int way, int members) {
        for (int f = 0; f < formulaCount; f++) {
            Formula formula = formulas[f];
            if (isIn(members, f)) {
                if (!formula.isJudged(way)) {
                    tried.goTo(way);
                    formula.keep(way, judge.isSo(formula, tried));
                }
                if (formula.isSoIn(way) == formula.isDenied) {
                    return false;
                }
            }
        }
        return true;
    }

    private boolean hasModel(int members) {
        for (int word = 0; word < MOST_WORDS; word++) {
            if (modelsIn(word, members) != 0L) {
                return true;
            }
        }
        return false;
    }

    private static int placeOfBit(long bits, int ahead) {
        long rest = bits;
        for (int i = 0; i < ahead; i++) {
            rest &= rest - 1L;
        }
        long lowest = rest & -rest;
        return Long.bitCount(lowest - 1L);
    }

    private boolean areLengthsFit() {
        for (int f = 0; f < formulaCount; f++) {
            Formula formula = formulas[f];
            if (!formula.isLeftOut && !isLengthFit(formula)) {
                return false;
            }
        }
        return true;
    }

    private boolean isLengthFit(Formula formula) {
        if (formula.kind == LONGER) {
            return judge.isLonger(formula, tried.lengths) != formula.isDenied;
        }
        return formula.kind != SAME || formula.isDenied || judge.isOneLength(formula, tried.lengths);
    }

    /** The letters and the texts, and how many ways there are to fill these. */
    private static final class Space {
        final int[] mosts = new int[MOST_TEXTS];
        int letters = FEWEST_LETTERS;
        int texts;
        int size = 1;

        void restart(int newLetters) {
            letters = newLetters;
            texts = 0;
            size = 1;
        }

        boolean isLetter(int number) {
            return number >= 0 && number < letters;
        }

        boolean isText(int number) {
            return number >= 0 && number < texts;
        }

        boolean hasRoomFor(int most) {
            return texts < MOST_TEXTS && size * rowsUpTo(most) <= MOST_SPACE;
        }

        void add(int most) {
            if (texts < MOST_TEXTS) {
                mosts[texts] = most;
                texts++;
                size *= rowsUpTo(most);
            }
        }

        private int rowsUpTo(int most) {
            int rows = 1;
            int ofOneLength = 1;
            for (int i = 0; i < most; i++) {
                ofOneLength *= letters;
                rows += ofOneLength;
            }
            return rows;
        }

        int lengthWays() {
            int ways = 1;
            for (int t = 0; t < texts; t++) {
                ways *= mosts[t] + 1;
            }
            return ways;
        }
    }

    /**
     * One way to fill the texts. Their letters stand in one row, text 0's first: the ways of the same
     * lengths, in order, are the numbers from 0 on with the row as their digits.
     */
    private static final class Way {
        final Space space;
        final int[] lengths = new int[MOST_TEXTS];
        final int[] starts = new int[MOST_TEXTS];
        final int[] row = new int[MOST_TEXTS * MOST_LENGTH];
        int total;
        /** The first way of these lengths, and how many of them there are. */
        int first;
        int count = 1;

        Way(Space space) {
            this.space = space;
        }

        void restart() {
            Arrays.fill(lengths, 0);
            first = 0;
            layOut();
        }

        private void layOut() {
            total = 0;
            for (int t = 0; t < space.texts; t++) {
                starts[t] = total;
                total += lengths[t];
            }
            count = 1;
            for (int i = 0; i < total; i++) {
                count *= space.letters;
            }
        }

        /** Behind the last lengths come the first ones again. */
        void goToNextLengths() {
            first += count;
            int t = space.texts - 1;
            while (t >= 0 && lengths[t] >= space.mosts[t]) {
                lengths[t] = 0;
                t--;
            }
            if (t >= 0) {
                lengths[t]++;
            } else {
                first = 0;
            }
            layOut();
        }

        void goTo(int way) {
            if (way < first) {
                restart();
            }
            for (int n = space.lengthWays(); n > 0 && way >= first + count; n--) {
                goToNextLengths();
            }
            int left = way - first;
            for (int i = total - 1; i >= 0 && space.letters > 0; i--) {
                row[i] = left % space.letters;
                left /= space.letters;
            }
        }

        int lengthOf(int text) {
            return space.isText(text) ? lengths[text] : 0;
        }

        int letterOf(int text, int i) {
            return i >= 0 && i < lengthOf(text) ? row[starts[text] + i] : NONE;
        }
    }

    /** Parts, one behind the other: letters, and texts by their number and FIRST_TEXT. */
    private static final class Term {
        final int[] parts = new int[MOST_PARTS];
        int size;

        void restart() {
            size = 0;
        }

        boolean add(int what) {
            if (size >= MOST_PARTS) {
                return false;
            }
            parts[size] = what;
            size++;
            return true;
        }

        int lengthWith(int[] lengths) {
            int sum = 0;
            for (int i = 0; i < size; i++) {
                int text = parts[i] - FIRST_TEXT;
                sum += text >= 0 && text < lengths.length ? lengths[text] : 1;
            }
            return sum;
        }
    }

    /** What a term is in one way. */
    private static final class Row {
        final int[] letters = new int[MOST_PARTS * MOST_LENGTH];
        int size;

        void write(Term term, Way way) {
            size = 0;
            for (int i = 0; i < term.size; i++) {
                int text = term.parts[i] - FIRST_TEXT;
                if (text < 0) {
                    addLetter(term.parts[i]);
                } else if (text < way.lengths.length) {
                    addRow(way.row, way.starts[text], way.lengths[text]);
                }
            }
        }

        private void addLetter(int letter) {
            if (size < letters.length) {
                letters[size] = letter;
                size++;
            }
        }

        private void addRow(int[] row, int from, int count) {
            for (int i = 0; i < count && size < letters.length && from + i < row.length; i++) {
                letters[size] = row[from + i];
                size++;
            }
        }

        /** Whether so many letters from a place on are those of another row from its place on. */
        private boolean agrees(int from, Row other, int otherFrom, int count) {
            if (from + count > size || otherFrom + count > other.size) {
                return false;
            }
            for (int i = 0; i < count; i++) {
                if (letters[from + i] != other.letters[otherFrom + i]) {
                    return false;
                }
            }
            return true;
        }

        boolean isSame(Row other) {
            return size == other.size && agrees(0, other, 0, size);
        }

        int placeOf(Row other) {
            for (int from = 0; from + other.size <= size; from++) {
                if (agrees(from, other, 0, other.size)) {
                    return from;
                }
            }
            return NONE;
        }

        boolean isBefore(Row other) {
            for (int i = 0; i < size && i < other.size; i++) {
                if (letters[i] != other.letters[i]) {
                    return letters[i] < other.letters[i];
                }
            }
            return size < other.size;
        }

        /** The rest of a negative sum is taken as in plain numbers: never below 0. */
        boolean hasSum(int divisor, int rest) {
            int sum = 0;
            for (int i = 0; i < size; i++) {
                sum = 31 * sum + letters[i] + 1;
            }
            return divisor > 0 && Math.floorMod(sum, divisor) == rest;
        }

        /** Whether this is the whole with what is put in place of so many letters at a place. */
        boolean isReplaced(Row whole, int at, int gone, Row put) {
            int behind = whole.size - at - gone;
            return size == at + put.size + behind
                && agrees(0, whole, 0, at)
                && agrees(at, put, 0, put.size)
                && agrees(at + put.size, whole, at + gone, behind);
        }
    }

    private static final class Machine {
        final int[] steps = new int[MOST_STATES * MOST_LETTERS];
        int states = 1;
        /** Bit s: state s is good. */
        int goodStates;

        void restart(int newStates) {
            states = newStates;
            goodStates = 0;
            Arrays.fill(steps, 0);
        }

        boolean isState(int number) {
            return number >= 0 && number < states;
        }

        int next(int state, int letter) {
            int at = state * MOST_LETTERS + letter;
            return at >= 0 && at < steps.length ? steps[at] : 0;
        }

        void lead(int state, int letter, int to) {
            int at = state * MOST_LETTERS + letter;
            if (at >= 0 && at < steps.length) {
                steps[at] = to;
            }
        }

        boolean isGood(int state) {
            return (goodStates >> state & 1) != 0;
        }

        void setGood(int state, boolean is) {
            goodStates = is ? goodStates | 1 << state : goodStates & ~(1 << state);
        }

        boolean takes(Row row) {
            int state = 0;
            for (int i = 0; i < row.size; i++) {
                state = next(state, row.letters[i]);
            }
            return isGood(state);
        }

        /** Pairs of states, as bits, grow by what one more letter leads to until nothing new comes. */
        int shortestWith(Machine other, int letters) {
            long reached = 1L;
            for (int length = 0; length < PAIRS; length++) {
                long further = reached;
                for (int pair = 0; pair < PAIRS; pair++) {
                    if ((reached >> pair & 1L) == 0L) {
                        continue;
                    }
                    int mine = pair / MOST_STATES;
                    int others = pair % MOST_STATES;
                    if (isGood(mine) && other.isGood(others)) {
                        return length;
                    }
                    for (int letter = 0; letter < letters; letter++) {
                        further |= 1L << next(mine, letter) * MOST_STATES + other.next(others, letter);
                    }
                }
                if (further == reached) {
                    return NONE;
                }
                reached = further;
            }
            return NONE;
        }
    }

    private static final class Formula {
        /** Bit w: whether it was judged in way w, and whether it is so there. */
        final long[] judged = new long[MOST_WORDS];
        final long[] so = new long[MOST_WORDS];
        int kind;
        int a;
        int b;
        int c;
        int d;
        boolean isDenied;
        boolean isLeftOut;

        void restart(int newKind, int newA, int newB, int newC, int newD) {
            kind = newKind;
            a = newA;
            b = newB;
            c = newC;
            d = newD;
            isDenied = false;
            isLeftOut = false;
            forget();
        }

        void forget() {
            Arrays.fill(judged, 0L);
            Arrays.fill(so, 0L);
        }

        boolean isJudged(int way) {
            return isBit(judged, way);
        }

        boolean isSoIn(int way) {
            return isBit(so, way);
        }

        private static boolean isBit(long[] bits, int way) {
            int word = way / WORD;
            return word >= 0 && word < bits.length && (bits[word] >>> way % WORD & 1L) != 0L;
        }

        void keep(int way, boolean is) {
            int word = way / WORD;
            if (word >= 0 && word < MOST_WORDS) {
                judged[word] |= 1L << way % WORD;
                so[word] |= (is ? 1L : 0L) << way % WORD;
            }
        }

        long ruledOut(int word) {
            if (word < 0 || word >= MOST_WORDS) {
                return 0L;
            }
            return judged[word] & (isDenied ? so[word] : ~so[word]);
        }

        long notJudged(int word) {
            return word < 0 || word >= MOST_WORDS ? 0L : ~judged[word];
        }

        boolean hasSecondTerm() {
            return kind != TAKEN && kind != SUM;
        }

        boolean isAboutTerm(int term) {
            return a == term
                || hasSecondTerm() && b == term
                || kind == REPLACED && (c == term || d == term);
        }

        boolean isAboutMachine(int machine) {
            return kind == TAKEN && b == machine;
        }
    }

    /** Tells whether a formula, as it is, is so in one way. */
    private static final class Judge {
        final Term[] terms;
        final Machine[] machines;
        /** In place of a term where there is NONE. */
        final Term nothing = new Term();
        final Row a = new Row();
        final Row b = new Row();
        final Row c = new Row();
        final Row d = new Row();

        Judge(Term[] terms, Machine[] machines) {
            this.terms = terms;
            this.machines = machines;
        }

        private Term termAt(int number) {
            return number >= 0 && number < terms.length ? terms[number] : nothing;
        }

        private Machine machineAt(int number) {
            return number >= 0 && number < machines.length ? machines[number] : null;
        }

        boolean isLonger(Formula formula, int[] lengths) {
            int longer = termAt(formula.a).lengthWith(lengths) - termAt(formula.b).lengthWith(lengths);
            return longer >= formula.c;
        }

        boolean isOneLength(Formula formula, int[] lengths) {
            return termAt(formula.a).lengthWith(lengths) == termAt(formula.b).lengthWith(lengths);
        }

        boolean isSo(Formula formula, Way way) {
            // Lengths alone settle these two, and need no letters to be put together.
            if (formula.kind == LONGER) {
                return isLonger(formula, way.lengths);
            }
            if (formula.kind == SAME && !isOneLength(formula, way.lengths)) {
                return false;
            }
            a.write(termAt(formula.a), way);
            if (formula.hasSecondTerm()) {
                b.write(termAt(formula.b), way);
            }
            switch (formula.kind) {
                case SAME:
                    return a.isSame(b);
                case TAKEN:
                    Machine machine = machineAt(formula.b);
                    return machine != null && machine.takes(a);
                case BEFORE:
                    return a.isBefore(b);
                case HAS:
                    return a.placeOf(b) != NONE;
                case SUM:
                    return a.hasSum(formula.b, formula.c);
                case REPLACED:
                    c.write(termAt(formula.c), way);
                    d.write(termAt(formula.d), way);
                    int at = b.placeOf(c);
                    return at == NONE ? a.isSame(b) : a.isReplaced(b, at, c.size, d);
                default:
                    return false;
            }
        }
    }
}
