/** Promises 12 to 22: for each boundary that a sentence names, a test of its own. */
public final class AskBoundaryTest extends Check {
    private static final int TEXTS = 1, MACHINES = 3, FORMULAS = 4;

    /** Two letters, one text x of five letters at most, and the term x. */
    private static TextSolver oneText() {
        TextSolver x = new TextSolver();
        x.text(5);
        termOf(x, "x");
        return x;
    }

    private static TextSolver withoutModel() {
        TextSolver x = oneText();
        x.formula(LONGER, 0, NONE, 6, 0);
        return x;
    }

    private static void solving() {
        test("12 without TEXTS and FORMULAS there is a MODEL", () -> {
            TextSolver x = new TextSolver();
            due("solve()", x.solve(), 1);
            due("told(6)", x.told(6), 1);
        });
        test("12 without TEXTS a FORMULA alone tells", () -> {
            TextSolver x = new TextSolver();
            x.term();
            x.formula(SAME, 0, 0, 0, 0);
            due("solve() of what is so", x.solve(), 1);
            x.deny(0, true);
            due("solve() of what is not so", x.solve(), 0);
        });
        test("12 MODEL 0 is at hand: all TEXTS are empty where nothing forbids it", () -> {
            TextSolver x = oneText();
            x.text(5);
            due("solve()", x.solve(), 1);
            due("length(0)", x.length(0), 0);
            due("length(1)", x.length(1), 0);
        });
        test("12 MODEL 0 is at hand also when another one was", () -> {
            TextSolver x = oneText();
            x.formula(LONGER, 0, NONE, 1, 0);
            x.model(61);
            dueRow("model(61)", x, 0, "11111");
            due("solve()", x.solve(), 1);
            dueRow("solve()", x, 0, "0");
        });
        test("12 the only MODEL is the first of THE SPACE", () -> {
            TextSolver x = oneText();
            x.formula(LONGER, 0, NONE, 1, 0);
            x.deny(0, true);
            dueModels("just the empty one", x, "");
        });
        test("12 the only MODEL is the last of the greatest SPACE", () -> {
            TextSolver x = greatestSpace();
            x.formula(SAME, termOf(x, "x"), termOf(x, "2222"), 0, 0);
            x.formula(SAME, termOf(x, "yzw"), termOf(x, "222"), 0, 0);
            due("models()", x.models(), 1);
            due("solve()", x.solve(), 1);
            dueRow("solve()", x, 0, "2222");
            dueRow("solve()", x, 3, "2");
        });
        test("12 0: there is none, and none is at hand", () -> {
            TextSolver x = withoutModel();
            due("solve()", x.solve(), 0);
            due("told(6)", x.told(6), 0);
            due("length(0)", x.length(0), STATE);
            refused("solve()", 0, Sample.WITH_CORE, TextSolver::solve);
        });
    }

    private static TextSolver greatestSpace() {
        TextSolver x = withLetters(3);
        x.text(4);
        x.text(1);
        x.text(1);
        x.text(1);
        due("told(5)", x.told(5), 7744);
        return x;
    }

    private static void numbering() {
        test("13 the first MODEL and the last one", () -> {
            TextSolver x = greatestSpace();
            due("model(7743)", x.model(7743), 1);
            dueRow("model(7743)", x, 0, "2222");
            dueRow("model(7743)", x, 3, "2");
            due("model(0)", x.model(0), 1);
            dueRow("model(0)", x, 0, "");
            dueRow("model(0)", x, 3, "");
        });
        test("13 there is no such one: what is at hand stays", () -> {
            for (Sample sample : Sample.WITH_MODEL) {
                int models = sample.make().models();
                refusedOutside("model", 0, new Sample[] {sample}, 0, models - 1, (x, k) -> x.model(k));
            }
        });
        test("13 there is none at all: none comes to hand", () ->
            refusedOutside("model", 0, Sample.WITH_CORE, 0, -1, (x, k) -> x.model(k)));
        test("13 there is no such one, and none was at hand", () -> {
            TextSolver x = oneText();
            for (int k : outside(0, 62)) {
                due("model(" + k + ")", x.model(k), 0);
                due("told(6)", x.told(6), 0);
                due("length(0)", x.length(0), STATE);
            }
        });
        test("13 by the lengths of TEXT 0 first, then of TEXT 1, then by letters", () -> {
            TextSolver x = new TextSolver();
            x.text(1);
            x.text(2);
            dueModels("two TEXTS", x, ",", ",0", ",1", ",00", ",01", ",10", ",11", "0,", "1,",
                "0,0", "0,1", "1,0", "1,1", "0,00", "0,01", "0,10", "0,11", "1,00", "1,01", "1,10", "1,11");
        });
        test("13 four TEXTS: the last one's length changes first", () -> {
            TextSolver x = new TextSolver();
            for (int i = 0; i < 4; i++) {
                x.text(1);
            }
            String[] rows = {",,,", ",,,0", ",,,1", ",,0,", ",,1,", ",,0,0", ",,0,1", ",,1,0", ",,1,1", ",0,,", ",1,,"};
            for (int k = 0; k < rows.length; k++) {
                dueModel(x, k, rows[k]);
            }
            dueModel(x, 79, "1,1,1,0");
            dueModel(x, 80, "1,1,1,1");
            dueModel(x, 65, "0,0,0,0");
            dueModel(x, 64, "1,1,1,");
            dueModel(x, 63, "1,1,0,");
            due("model(81)", x.model(81), 0);
        });
        test("13 numbered by MODELS, not by THE SPACE", () -> {
            TextSolver x = oneText();
            x.formula(HAS, 0, termOf(x, "1111"), 0, 0);
            dueModels("x has 1111", x, "1111", "01111", "11110", "11111");
        });
    }

    private static void dueModel(TextSolver x, int k, String rows) {
        due("model(" + k + ")", x.model(k), 1);
        String[] each = rows.split(",", -1);
        for (int t = 0; t < each.length; t++) {
            dueRow("model(" + k + ")", x, t, each[t]);
        }
    }

    private static void counting() {
        test("14 one, without TEXTS", () -> due("models()", new TextSolver().models(), 1));
        test("14 one, with TEXTS of MOST 0", () -> {
            TextSolver x = new TextSolver();
            for (int i = 0; i < 4; i++) {
                x.text(0);
            }
            due("models()", x.models(), 1);
        });
        test("14 none", () -> due("models()", withoutModel().models(), 0));
        test("14 all of the greatest SPACE", () -> due("models()", greatestSpace().models(), 7744));
        test("14 all, by a FORMULA that is never so and DENIED: none behind THE SPACE", () -> {
            TextSolver x = greatestSpace();
            x.term();
            x.formula(BEFORE, 0, 0, 0, 0);
            due("models()", x.models(), 0);
            x.deny(0, true);
            due("models() denied", x.models(), 7744);
            due("model(7744)", x.model(7744), 0);
        });
        test("14 what is at hand stays", () -> {
            refused("models()", Sample.MODEL.make().models(), new Sample[] {Sample.MODEL}, TextSolver::models);
            refused("models()", 0, Sample.WITH_CORE, TextSolver::models);
        });
    }

    private static void lengths() {
        test("15 UNKNOWN, also ahead of STATE", () ->
            refusedUnknown("length", Sample.ALL, TEXTS, (x, n) -> x.length(n)));
        test("15 STATE: none is at hand", () -> {
            refused("length(0)", STATE, Sample.WITH_CORE, x -> x.length(0));
            refused("length(1)", STATE, Sample.WITH_CORE, x -> x.length(1));
            due("length(0), not solved yet", oneText().length(0), STATE);
        });
        test("15 from 0 to MOST", () -> {
            for (int most = 0; most <= 5; most++) {
                TextSolver x = new TextSolver();
                x.text(0);
                x.text(most);
                x.solve();
                due("length(1) in the first MODEL", x.length(1), 0);
                x.model(x.models() - 1);
                due("length(1) in the last MODEL", x.length(1), most);
                due("length(0) in the last MODEL", x.length(0), 0);
            }
        });
        test("15 the last TEXT", () -> {
            TextSolver x = greatestSpace();
            x.model(7743);
            due("length(0)", x.length(0), 4);
            due("length(3)", x.length(3), 1);
            due("length(4)", x.length(4), UNKNOWN);
        });
    }

    private static void letters() {
        test("16 UNKNOWN, also ahead of STATE and of NONE", () -> {
            refusedUnknown("letter(n, 0)", Sample.ALL, TEXTS, (x, n) -> x.letter(n, 0));
            refusedUnknown("letter(n, -1)", Sample.ALL, TEXTS, (x, n) -> x.letter(n, -1));
            refusedUnknown("letter(n, 5)", Sample.ALL, TEXTS, (x, n) -> x.letter(n, 5));
        });
        test("16 STATE: none is at hand, also where there is no such letter", () -> {
            for (int i : new int[] {LEAST, -1, 0, 5, GREATEST}) {
                refused("letter(0, " + i + ")", STATE, Sample.WITH_CORE, x -> x.letter(0, i));
            }
            due("letter(0, 0), not solved yet", oneText().letter(0, 0), STATE);
        });
        test("16 from 0 on to the last letter; NONE on both sides", () -> {
            TextSolver x = withLetters(3);
            x.text(5);
            x.text(1);
            x.formula(SAME, termOf(x, "x"), termOf(x, "20112"), 0, 0);
            x.formula(SAME, termOf(x, "y"), termOf(x, "1"), 0, 0);
            x.solve();
            int[] row = {2, 0, 1, 1, 2};
            for (int i = 0; i < 5; i++) {
                due("letter(0, " + i + ")", x.letter(0, i), row[i]);
            }
            for (int i : outside(0, 4)) {
                due("letter(0, " + i + ")", x.letter(0, i), NONE);
            }
            due("letter(1, 0)", x.letter(1, 0), 1);
            for (int i : outside(0, 0)) {
                due("letter(1, " + i + ")", x.letter(1, i), NONE);
            }
        });
        test("16 NONE: an empty TEXT has no letter, though another one has", () -> {
            TextSolver x = new TextSolver();
            x.text(2);
            x.text(2);
            x.text(2);
            x.formula(SAME, termOf(x, "xz"), termOf(x, "1111"), 0, 0);
            x.solve();
            for (int i = -2; i <= 5; i++) {
                due("letter(1, " + i + ")", x.letter(1, i), NONE);
            }
            due("letter(2, 1)", x.letter(2, 1), 1);
        });
        test("16 NONE changes nothing", () ->
            refusedOutside("letter(1, n)", NONE, Sample.WITH_MODEL, 0, 4, (x, n) -> x.letter(1, n)));
    }

    private static void holding() {
        test("17 UNKNOWN, also ahead of STATE", () ->
            refusedUnknown("holds", Sample.ALL, FORMULAS, (x, n) -> x.holds(n)));
        test("17 STATE: none is at hand", () -> {
            refused("holds(0)", STATE, Sample.WITH_CORE, x -> x.holds(0));
            refused("holds(4)", STATE, Sample.WITH_CORE, x -> x.holds(4));
            TextSolver x = oneText();
            x.formula(SAME, 0, 0, 0, 0);
            due("holds(0), not solved yet", x.holds(0), STATE);
        });
        test("17 as it is, not as it is DENIED; also when it is LEFT OUT", () -> {
            for (int code = 0; code < 8; code++) {
                boolean isDenied = (code & 1) != 0;
                boolean isLeftOut = (code & 2) != 0;
                TextSolver x = oneText();
                x.formula(LONGER, 0, NONE, 5, 0);
                x.deny(0, isDenied);
                x.leave(0, isLeftOut);
                int last = x.models() - 1;
                boolean isLast = (code & 4) != 0;
                x.model(isLast ? last : 0);
                boolean isSo = isLeftOut ? isLast : !isDenied;
                due("holds(0), denied " + isDenied + ", left out " + isLeftOut, x.holds(0), isSo ? 1 : 0);
            }
        });
        test("17 the first FORMULA and the tenth", () -> {
            TextSolver x = oneText();
            for (int f = 0; f < 10; f++) {
                x.formula(LONGER, 0, NONE, f == 0 ? 5 : f == 9 ? 6 : 0, 0);
            }
            x.leave(9, true);
            due("solve()", x.solve(), 1);
            due("holds(0)", x.holds(0), 1);
            due("holds(9)", x.holds(9), 0);
        });
        test("17 holds changes nothing", () -> {
            int holds = Sample.MODEL.make().holds(1);
            refused("holds(1)", holds, new Sample[] {Sample.MODEL}, x -> x.holds(1));
        });
    }

    private static void cores() {
        test("18 STATE: there is a MODEL, at hand or not", () -> {
            refused("core()", STATE, Sample.WITH_MODEL, TextSolver::core);
            refused("core()", STATE, new Sample[] {Sample.NEW}, TextSolver::core);
            due("core(), not solved yet", oneText().core(), STATE);
        });
        test("18 STATE: all FORMULAS are LEFT OUT", () -> {
            TextSolver x = withoutModel();
            x.leave(0, true);
            due("core()", x.core(), STATE);
            due("inCore(0)", x.inCore(0), STATE);
        });
        test("18 one FORMULA", () -> {
            TextSolver x = withoutModel();
            due("core()", x.core(), 1);
            dueCore("the only one", x, 1);
        });
        test("18 all ten FORMULAS", () -> {
            TextSolver x = oneText();
            for (int rest = 0; rest < 10; rest++) {
                x.formula(SUM, 0, 10, rest, 0);
                x.deny(rest, true);
            }
            due("core()", x.core(), 10);
            dueCore("each rest is one that some row has", x, 1, 1, 1, 1, 1, 1, 1, 1, 1, 1);
        });
        test("18 one of ten, each alone without MODEL: the first stays", () -> {
            TextSolver x = oneText();
            for (int f = 0; f < 10; f++) {
                x.formula(LONGER, 0, NONE, 6, 0);
            }
            due("core()", x.core(), 1);
            dueCore("from the last one to the first", x, 1, 0, 0, 0, 0, 0, 0, 0, 0, 0);
            x.leave(0, true);
            due("core() without it", x.core(), 1);
            dueCore("the first that is not LEFT OUT", x, 0, 1, 0, 0, 0, 0, 0, 0, 0, 0);
        });
        test("18 without it and those that went", () -> {
            // 0 alone has no model; 1 and 2 together have none: 2 goes, and then 1 must go too.
            TextSolver x = oneText();
            x.formula(LONGER, 0, NONE, 6, 0);
            x.formula(LONGER, 0, NONE, 3, 0);
            x.formula(LONGER, 0, NONE, 3, 0);
            x.deny(2, true);
            due("core()", x.core(), 1);
            dueCore("0 alone", x, 1, 0, 0);
            // Two pairs without model: just the first pair stays, none of the second.
            x = oneText();
            x.formula(LONGER, 0, NONE, 3, 0);
            x.formula(HAS, 0, termOf(x, "1"), 0, 0);
            x.formula(LONGER, 0, NONE, 3, 0);
            x.deny(2, true);
            x.formula(HAS, 0, 1, 0, 0);
            x.deny(3, true);
            due("core()", x.core(), 2);
            dueCore("0 and 2: 3 went first", x, 1, 0, 1, 0);
        });
        test("18 the CORE is found again, the same", () -> {
            refused("core()", 2, new Sample[] {Sample.CORE}, TextSolver::core);
            refused("core()", 3, new Sample[] {Sample.FULL_CORE}, TextSolver::core);
        });
        test("18 without TEXTS", () -> {
            TextSolver x = new TextSolver();
            x.term();
            x.formula(SAME, 0, 0, 0, 0);
            x.formula(BEFORE, 0, 0, 0, 0);
            due("core()", x.core(), 1);
            dueCore("what is not so", x, 0, 1);
        });
    }

    private static void coreMembers() {
        test("19 UNKNOWN, also ahead of STATE", () ->
            refusedUnknown("inCore", Sample.ALL, FORMULAS, (x, n) -> x.inCore(n)));
        test("19 STATE: there is a MODEL", () ->
            refused("inCore(0)", STATE, Sample.WITH_MODEL, x -> x.inCore(0)));
        test("19 STATE: there is no MODEL, but no CORE was found", () -> {
            TextSolver x = withoutModel();
            due("inCore(0)", x.inCore(0), STATE);
            due("solve()", x.solve(), 0);
            due("inCore(0) behind solve()", x.inCore(0), STATE);
            due("core()", x.core(), 1);
            due("inCore(0) behind core()", x.inCore(0), 1);
        });
        test("19 STATE: core() was refused", () -> {
            TextSolver x = oneText();
            x.formula(SAME, 0, 0, 0, 0);
            x.core();
            due("inCore(0)", x.inCore(0), STATE);
        });
        test("19 one that is LEFT OUT is not in it", () -> {
            TextSolver x = oneText();
            for (int f = 0; f < 10; f++) {
                x.formula(LONGER, 0, NONE, 6, 0);
                x.leave(f, f != 9);
            }
            due("core()", x.core(), 1);
            dueCore("the tenth alone", x, 0, 0, 0, 0, 0, 0, 0, 0, 0, 1);
        });
        test("19 inCore changes nothing", () -> {
            refused("inCore(0)", 1, Sample.WITH_CORE, x -> x.inCore(0));
            refused("inCore(3)", 0, Sample.WITH_CORE, x -> x.inCore(3));
        });
    }

    private static void spans() {
        test("20 one, without TEXTS", () -> due("spans()", new TextSolver().spans(), 1));
        test("20 one, with TEXTS of MOST 0", () -> {
            TextSolver x = new TextSolver();
            x.text(0);
            x.text(0);
            due("spans()", x.spans(), 1);
        });
        test("20 none, without TEXTS", () -> {
            TextSolver x = new TextSolver();
            x.term();
            x.formula(LONGER, 0, NONE, 1, 0);
            due("spans()", x.spans(), 0);
        });
        test("20 0 to MOST each, four TEXTS", () -> {
            TextSolver x = new TextSolver();
            for (int most : new int[] {3, 2, 2, 2}) {
                x.text(most);
            }
            due("spans()", x.spans(), 108);
            due("told(5)", x.told(5), 5145);
        });
        test("20 just one way: all are empty, all are as long as they can be", () -> {
            TextSolver x = oneText();
            x.text(5);
            termOf(x, "xy");
            x.formula(LONGER, 1, NONE, 1, 0);
            x.deny(0, true);
            due("spans() of nothing", x.spans(), 1);
            x.leave(0, true);
            x.formula(LONGER, 1, NONE, 10, 0);
            due("spans() of ten letters", x.spans(), 1);
            x.leave(1, true);
            x.formula(LONGER, 1, NONE, 11, 0);
            due("spans() of eleven letters", x.spans(), 0);
        });
        test("20 LONGER: as it is to be, if it is not LEFT OUT", () -> {
            TextSolver x = oneText();
            x.formula(LONGER, 0, NONE, 2, 0);
            due("spans()", x.spans(), 4);
            x.deny(0, true);
            due("spans() denied", x.spans(), 2);
            x.leave(0, true);
            due("spans() denied and left out", x.spans(), 6);
            x.deny(0, false);
            due("spans() left out", x.spans(), 6);
        });
        test("20 LONGER: c of -40 and 40", () -> {
            TextSolver x = oneText();
            x.formula(LONGER, 0, NONE, -40, 0);
            due("spans() of -40", x.spans(), 6);
            x.formula(LONGER, 0, 0, 40, 0);
            due("spans() of 40", x.spans(), 0);
            x.deny(1, true);
            due("spans() of 40, denied", x.spans(), 6);
        });
        test("20 SAME: one length, if it is neither DENIED nor LEFT OUT", () -> {
            TextSolver x = oneText();
            x.formula(SAME, 0, termOf(x, "01"), 0, 0);
            due("spans()", x.spans(), 1);
            x.deny(0, true);
            due("spans() denied", x.spans(), 6);
            x.leave(0, true);
            due("spans() denied and left out", x.spans(), 6);
            x.deny(0, false);
            due("spans() left out", x.spans(), 6);
        });
        test("20 SAME: one length is enough, letters are not looked at", () -> {
            TextSolver x = oneText();
            x.formula(SAME, termOf(x, "x0"), termOf(x, "x1"), 0, 0);
            due("spans()", x.spans(), 6);
            due("models()", x.models(), 0);
        });
        test("20 other KINDS are not looked at", () -> {
            TextSolver x = oneText();
            x.machine(1);
            termOf(x, "x0");
            x.formula(TAKEN, 0, 0, 0, 0);
            x.formula(BEFORE, 0, 0, 0, 0);
            x.formula(HAS, 0, 1, 0, 0);
            x.formula(SUM, 1, 2, 0, 0);
            x.formula(REPLACED, 0, 1, 1, 1);
            due("spans()", x.spans(), 6);
            due("models()", x.models(), 0);
        });
        test("20 the longest TERM: 30 letters", () -> {
            TextSolver x = oneText();
            termOf(x, "xxxxxx");
            x.formula(LONGER, 1, NONE, 30, 0);
            due("spans() of 30 letters", x.spans(), 1);
            x.formula(LONGER, 1, NONE, 31, 0);
            due("spans() of 31 letters", x.spans(), 0);
        });
        test("20 spans between two counts of MODELS", () -> {
            TextSolver x = new TextSolver();
            x.text(2);
            termOf(x, "x");
            x.formula(LONGER, 0, NONE, 1, 0);
            due("models()", x.models(), 6);
            x.formula(HAS, 0, termOf(x, "0"), 0, 0);
            due("spans()", x.spans(), 2);
            dueModels("behind it", x, "0", "00", "01", "10");
        });
        test("20 spans changes nothing", () -> {
            refused("spans()", Sample.MODEL.make().spans(), new Sample[] {Sample.MODEL}, TextSolver::spans);
            refused("spans()", 0, Sample.WITH_CORE, TextSolver::spans);
        });
    }

    private static void meetings() {
        test("21 UNKNOWN: the first, the other, both", () -> {
            refusedUnknown("meet(n, 0)", Sample.ALL, MACHINES, (x, n) -> x.meet(n, 0));
            refusedUnknown("meet(0, n)", Sample.ALL, MACHINES, (x, n) -> x.meet(0, n));
            refusedUnknown("meet(n, n)", Sample.ALL, MACHINES, (x, n) -> x.meet(n, n));
        });
        test("21 0: both take the row without letters", () -> {
            TextSolver x = new TextSolver();
            x.machine(1);
            x.machine(6);
            x.good(0, 0, true);
            x.good(1, 0, true);
            due("meet(0, 1)", x.meet(0, 1), 0);
            due("meet(1, 1)", x.meet(1, 1), 0);
        });
        test("21 NONE: one of them has no GOOD STATE", () -> {
            TextSolver x = new TextSolver();
            x.machine(1);
            x.machine(1);
            x.good(0, 0, true);
            due("meet(0, 1)", x.meet(0, 1), NONE);
            due("meet(1, 0)", x.meet(1, 0), NONE);
            due("meet(1, 1)", x.meet(1, 1), NONE);
            due("meet(0, 0)", x.meet(0, 0), 0);
        });
        test("21 NONE: no STEP leads to the GOOD STATE", () -> {
            TextSolver x = new TextSolver();
            x.machine(6);
            x.good(0, 5, true);
            due("meet(0, 0)", x.meet(0, 0), NONE);
        });
        test("21 NONE: each takes rows, none the same", () -> {
            TextSolver x = new TextSolver();
            ringOf(x, 6, 1);
            ringOf(x, 4, 2);
            due("odd lengths and even ones", x.meet(0, 1), NONE);
        });
        test("21 a MACHINE and itself: the last STATE of each", () -> {
            for (int states = 1; states <= 6; states++) {
                TextSolver x = new TextSolver();
                ringOf(x, states, states - 1);
                due("meet(0, 0)", x.meet(0, 0), states - 1);
            }
        });
        test("21 each pair of rings of 1 to 6 STATES", () -> {
            for (int code = 0; code < 36; code++) {
                dueRings(2, code / 6 + 1, code % 6 + 1);
                dueRings(3, code / 6 + 1, code % 6 + 1);
            }
        });
        test("21 the longest that there can be: all 36 pairs of STATES", () -> {
            TextSolver x = new TextSolver();
            x.machine(6);
            x.machine(6);
            for (int state = 0; state < 6; state++) {
                x.step(0, state, 1, (state + 1) % 6);
                x.step(1, state, 1, (state + 1) % 6);
                x.step(0, state, 0, state == 5 ? 0 : state);
                x.step(1, state, 0, state);
            }
            // 1 leads both on; only a 0 in STATE 5 of the first leads it on alone, once in six letters.
            x.good(0, 5, true);
            x.good(1, 0, true);
            due("meet(0, 1)", x.meet(0, 1), 35);
            due("meet(1, 0)", x.meet(1, 0), 35);
        });
        test("21 the letters are those that there are: the first and the last", () -> {
            for (int letters = 2; letters <= 3; letters++) {
                for (int letter = 0; letter < letters; letter++) {
                    TextSolver x = withLetters(letters);
                    x.machine(2);
                    x.step(0, 0, letter, 1);
                    x.good(0, 1, true);
                    due("meet(0, 0) by letter " + letter, x.meet(0, 0), 1);
                }
            }
        });
        test("21 meet changes nothing", () -> {
            int met = Sample.MODEL.make().meet(0, 1);
            refused("meet(0, 1)", met, Sample.SMALL, x -> x.meet(0, 1));
        });
    }

    /** The last states of two rings: the least length that is one less than a multiple of both. */
    private static void dueRings(int letters, int states, int others) {
        TextSolver x = withLetters(letters);
        ringOf(x, states, states - 1);
        ringOf(x, others, others - 1);
        int length = 0;
        while (length % states != states - 1 || length % others != others - 1) {
            length++;
        }
        due("meet of rings of " + states + " and " + others, x.meet(0, 1), length);
    }

    private static void telling() {
        test("22 what is 0 to 6: on both sides OUTSIDE", () ->
            refusedOutside("told", OUTSIDE, Sample.ALL, 0, 6, (x, n) -> x.told(n)));
        test("22 nothing yet", () -> dueTold("new", Sample.NEW.make(), 2, 0, 0, 0, 0, 1, 0));
        test("22 some", () -> dueTold("some", Sample.MODEL.make(), 2, 2, 4, 2, 5, 21, 1));
        test("22 full", () -> dueTold("full", Sample.FULL_MODEL.make(), 3, 4, 12, 3, 10, 64, 1));
        test("22 no MODEL at hand", () -> dueTold("full", Sample.FULL_CORE.make(), 3, 4, 12, 3, 10, 64, 0));
        test("22 THE SPACE at its greatest", () -> due("told(5)", greatestSpace().told(5), 7744));
        test("22 FORMULAS that are LEFT OUT are told too", () -> {
            TextSolver x = withoutModel();
            x.leave(0, true);
            due("told(4)", x.told(4), 1);
        });
        test("22 told changes nothing", () -> {
            for (int what = 0; what <= 6; what++) {
                int asked = what;
                int told = Sample.MODEL.make().told(what);
                refused("told(" + what + ")", told, new Sample[] {Sample.MODEL}, x -> x.told(asked));
            }
        });
    }

    public static void main(String[] args) {
        solving();
        numbering();
        counting();
        lengths();
        letters();
        holding();
        cores();
        coreMembers();
        spans();
        meetings();
        telling();
        end();
    }
}
