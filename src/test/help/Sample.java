/** Objects that a refused call must leave as they are. The full ones have no room for anything more. */
enum Sample {
    NEW, MODEL, CORE, FULL_MODEL, FULL_CORE, WIDE;

    static final Sample[] ALL = {NEW, MODEL, CORE, FULL_MODEL, FULL_CORE};
    static final Sample[] FILLED = {MODEL, CORE, FULL_MODEL, FULL_CORE};
    static final Sample[] FULL = {FULL_MODEL, FULL_CORE};
    static final Sample[] SMALL = {MODEL, CORE};
    static final Sample[] WITH_MODEL = {MODEL, FULL_MODEL, WIDE};
    static final Sample[] WITH_CORE = {CORE, FULL_CORE};

    TextSolver make() {
        switch (this) {
            case NEW:
                return new TextSolver();
            case MODEL:
                return takeModel(small(0));
            case CORE:
                return takeCore(small(2), 2);
            case FULL_MODEL:
                return takeModel(full(0));
            case FULL_CORE:
                return takeCore(full(6), 3);
            default:
                return takeModel(wide());
        }
    }

    private static TextSolver takeModel(TextSolver x) {
        Check.due("a sample's model(3)", x.model(3), 1);
        return x;
    }

    private static TextSolver takeCore(TextSolver x, int size) {
        Check.due("a sample's core()", x.core(), size);
        return x;
    }

    /** Two letters; x is to be shorter than 2: a least length of 2 leaves no model. */
    private static TextSolver small(int least) {
        TextSolver x = new TextSolver();
        x.text(2);
        x.text(1);
        Check.termOf(x, "x");
        Check.termOf(x, "xy0");
        Check.termOf(x, "1");
        Check.termOf(x, "");
        x.machine(3);
        x.step(0, 0, 1, 1);
        x.step(0, 1, 0, 2);
        x.step(0, 2, 1, 2);
        x.good(0, 2, true);
        x.machine(2);
        x.step(1, 0, 0, 1);
        x.step(1, 1, 1, 1);
        x.good(1, 1, true);
        x.formula(Check.LONGER, 0, Check.NONE, least, 0);
        x.formula(Check.LONGER, 0, 2, 1, 0);
        x.deny(1, true);
        x.formula(Check.TAKEN, 1, 0, 0, 0);
        x.leave(2, true);
        x.formula(Check.TAKEN, 1, 1, 0, 0);
        x.formula(Check.REPLACED, 0, 1, 2, 3);
        x.deny(4, true);
        x.leave(4, true);
        return x;
    }

    /** A space of 6975: any letter more would bring it above 8000. */
    private static TextSolver wide() {
        TextSolver x = new TextSolver();
        x.text(4);
        x.text(3);
        x.text(3);
        Check.termOf(x, "xyz1");
        x.formula(Check.LONGER, 0, Check.NONE, 2, 0);
        return x;
    }

    /** Three letters; y is to be empty, and x no longer than y: 6 letters in term 0 leave no model. */
    private static TextSolver full(int least) {
        TextSolver x = Check.withLetters(3);
        for (int most : new int[] {1, 1, 1, 0}) {
            x.text(most);
        }
        String[] terms = {"x00000", "0y0000", "00z000", "xyzxyz", "w01201", "210xyz",
            "x1y1z1", "222222", "zzyyxx", "w1w1w1", "xxxxx2", "yzyz01"};
        for (String parts : terms) {
            Check.termOf(x, parts);
        }
        for (int m = 0; m < 3; m++) {
            x.machine(6);
            for (int state = 0; state < 6; state++) {
                x.step(m, state, state % 3, (state + m + 1) % 6);
            }
            x.good(m, 0, true);
            x.good(m, 5 - m, true);
        }
        x.formula(Check.LONGER, 0, Check.NONE, least, 0);
        x.formula(Check.LONGER, 1, Check.NONE, 6, 0);
        x.deny(1, true);
        x.formula(Check.LONGER, 0, 1, 1, 0);
        x.deny(2, true);
        x.formula(Check.SAME, 2, 4, 0, 0);
        x.leave(3, true);
        x.formula(Check.HAS, 3, 5, 0, 0);
        x.deny(4, true);
        x.formula(Check.BEFORE, 5, 7, 0, 0);
        x.formula(Check.SUM, 6, 7, 3, 0);
        x.leave(6, true);
        x.formula(Check.TAKEN, 8, 2, 0, 0);
        x.leave(7, true);
        x.formula(Check.TAKEN, 3, 0, 0, 0);
        x.leave(8, true);
        x.formula(Check.REPLACED, 8, 9, 10, 11);
        x.deny(9, true);
        return x;
    }
}
