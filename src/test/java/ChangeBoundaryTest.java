import java.util.List;
import java.util.stream.IntStream;

/** Promises 1 to 11: for each boundary that a sentence names, a test of its own. */
public final class ChangeBoundaryTest extends Check {
    private static final int TEXTS = 1, TERMS = 2, MACHINES = 3, FORMULAS = 4;
    private static final int[] WILD = {LEAST, -41, NONE, 12, 41, GREATEST};

    private static void constants() {
        test("the face's constants", () -> {
            due("NONE", TextSolver.NONE, -1);
            due("UNKNOWN", TextSolver.UNKNOWN, -2);
            due("OUTSIDE", TextSolver.OUTSIDE, -3);
            due("STATE", TextSolver.STATE, -4);
            due("ROOM", TextSolver.ROOM, -5);
        });
    }

    private static void newObject() {
        test("1 no TEXTS", () -> {
            due("told(1)", new TextSolver().told(1), 0);
            due("length(0)", new TextSolver().length(0), UNKNOWN);
            due("letter(0, 0)", new TextSolver().letter(0, 0), UNKNOWN);
            due("text(1), the first", new TextSolver().text(1), 0);
        });
        test("1 no TERMS", () -> {
            due("told(2)", new TextSolver().told(2), 0);
            due("part(0, 0)", new TextSolver().part(0, 0), UNKNOWN);
            due("formula(1, 0, NONE, 0, 0)", new TextSolver().formula(LONGER, 0, NONE, 0, 0), UNKNOWN);
            due("term(), the first", new TextSolver().term(), 0);
        });
        test("1 no MACHINES", () -> {
            due("told(3)", new TextSolver().told(3), 0);
            due("step(0, 0, 0, 0)", new TextSolver().step(0, 0, 0, 0), UNKNOWN);
            due("good(0, 0, true)", new TextSolver().good(0, 0, true), UNKNOWN);
            due("meet(0, 0)", new TextSolver().meet(0, 0), UNKNOWN);
            due("machine(1), the first", new TextSolver().machine(1), 0);
        });
        test("1 no FORMULAS", () -> {
            due("told(4)", new TextSolver().told(4), 0);
            due("deny(0, true)", new TextSolver().deny(0, true), UNKNOWN);
            due("leave(0, true)", new TextSolver().leave(0, true), UNKNOWN);
            due("holds(0)", new TextSolver().holds(0), UNKNOWN);
            due("inCore(0)", new TextSolver().inCore(0), UNKNOWN);
            due("clear(2)", new TextSolver().clear(2), 0);
        });
        test("1 two letters", () -> {
            TextSolver x = new TextSolver();
            due("told(0)", x.told(0), 2);
            x.term();
            due("part(0, 1)", x.part(0, 1), 1);
            due("part(0, 2)", x.part(0, 2), OUTSIDE);
        });
        test("1 no MODEL is at hand", () -> due("told(6)", new TextSolver().told(6), 0));
        test("1 objects are apart", () -> {
            TextSolver x = new TextSolver();
            TextSolver other = new TextSolver();
            Sample.FULL_MODEL.make();
            x.text(1);
            x.solve();
            dueTold("the other", other, 2, 0, 0, 0, 0, 1, 0);
        });
    }

    private static void clearCalls() {
        test("2 letters are 2 or 3, on both sides", () ->
            refusedOutside("clear", OUTSIDE, Sample.ALL, 2, 3, (x, n) -> x.clear(n)));
        test("2 there is nothing then, with two letters", () -> clearedIsNew(2));
        test("2 there is nothing then, with three letters", () -> clearedIsNew(3));
        test("2 how many FORMULAS there were: none, some, all", () -> {
            due("clear(2) of none", Sample.NEW.make().clear(2), 0);
            due("clear(2) of five", Sample.MODEL.make().clear(2), 5);
            due("clear(3) of ten", Sample.FULL_CORE.make().clear(3), 10);
        });
        test("2 how many there were, not how many there have ever been", () -> {
            TextSolver x = Sample.FULL_MODEL.make();
            x.clear(2);
            due("clear(2) again", x.clear(2), 0);
            x.term();
            x.formula(SAME, 0, 0, 0, 0);
            due("clear(3) of one", x.clear(3), 1);
        });
        test("2 left out and denied ones are counted too", () -> {
            TextSolver x = new TextSolver();
            x.term();
            x.formula(SAME, 0, 0, 0, 0);
            x.formula(SAME, 0, 0, 0, 0);
            x.leave(0, true);
            x.deny(1, true);
            due("clear(2)", x.clear(2), 2);
        });
        test("2 nothing of what was DENIED, LEFT OUT, GOOD or led elsewhere comes again", () -> {
            for (int letters = 2; letters <= 3; letters++) {
                nothingComesAgain(letters);
            }
        });
        test("2 full, cleared, and full again", () -> {
            TextSolver x = Sample.FULL_MODEL.make();
            x.clear(3);
            for (int i = 0; i < 12; i++) {
                due("text(1)", x.text(1), i < 4 ? i : ROOM);
                due("term()", x.term(), i);
                due("machine(6)", x.machine(6), i < 3 ? i : ROOM);
                due("formula", x.formula(SAME, i, i, 0, 0), i < 10 ? i : ROOM);
                for (int part = 1; part <= 7; part++) {
                    due("part", x.part(i, 2), part <= 6 ? part : ROOM);
                }
            }
        });
    }

    private static void clearedIsNew(int letters) {
        List<String> want = everything(withLetters(letters));
        for (Sample sample : Sample.ALL) {
            TextSolver x = sample.make();
            x.clear(letters);
            dueTold("cleared " + sample, x, letters, 0, 0, 0, 0, 1, 0);
            dueEverything("clear(" + letters + ") on " + sample, everything(x), want);
        }
    }

    private static void nothingComesAgain(int letters) {
        TextSolver x = withLetters(3);
        for (int round = 0; round < 2; round++) {
            x.term();
            for (int f = 0; f < 10; f++) {
                x.formula(SAME, 0, 0, 0, 0);
                due("round " + round + ": deny(" + f + ", true)", x.deny(f, true), 0);
                due("round " + round + ": leave(" + f + ", true)", x.leave(f, true), 0);
            }
            for (int code = 0; code < 18; code++) {
                int machine = code % 6 == 0 ? x.machine(6) : code / 6;
                due("round " + round + ": good", x.good(machine, code % 6, true), 0);
                for (int letter = 0; letter < x.told(0); letter++) {
                    due("round " + round + ": step", x.step(machine, code % 6, letter, 5), 0);
                }
            }
            due("round " + round + ": part(0, 0)", x.part(0, 0), 1);
            x.clear(letters);
        }
    }

    private static void texts() {
        test("3 MOST is 0 to 5: both ends are taken", () -> {
            for (int letters = 2; letters <= 3; letters++) {
                due("text(0)", withLetters(letters).text(0), 0);
                due("text(5)", withLetters(letters).text(5), 0);
            }
        });
        test("3 MOST is 0 to 5: on both sides of it OUTSIDE, ahead of ROOM", () ->
            refusedOutside("text", OUTSIDE, Sample.ALL, 0, 5, (x, n) -> x.text(n)));
        test("3 four TEXTS, numbered from 0 on", () -> {
            TextSolver x = new TextSolver();
            for (int i = 0; i < 4; i++) {
                due("text(2)", x.text(2), i);
                due("told(1)", x.told(1), i + 1);
            }
        });
        test("3 a fifth TEXT is ROOM, also one that leaves THE SPACE as it is", () -> {
            for (int most = 0; most <= 5; most++) {
                int last = most;
                refused("text(" + most + ")", ROOM, Sample.FULL, x -> x.text(last));
            }
        });
        test("3 ROOM: THE SPACE would be above 8000, and nothing changes", () -> {
            for (int most = 1; most <= 5; most++) {
                int last = most;
                refused("text(" + most + ")", ROOM, new Sample[] {Sample.WIDE}, x -> x.text(last));
            }
            TextSolver x = Sample.WIDE.make();
            x.text(5);
            due("text(0) fits behind one that did not", x.text(0), 3);
            due("told(5)", x.told(5), 6975);
        });
        test("3 OUTSIDE ahead of ROOM where THE SPACE would be above 8000", () ->
            refusedOutside("text", OUTSIDE, new Sample[] {Sample.WIDE}, 0, 5, (x, n) -> x.text(n)));
        test("3 a TEXT behind ten FORMULAS", () -> {
            TextSolver x = tenFormulas();
            due("text(5)", x.text(5), 0);
            due("models()", x.models(), 63);
            due("text(1)", x.text(1), 1);
            due("models()", x.models(), 189);
        });
        test("3 each way to choose four TEXTS of two letters", () -> everyFourTexts(2, 1, 3, 7, 15, 31, 63));
        test("3 each way to choose four TEXTS of three letters", () -> everyFourTexts(3, 1, 4, 13, 40, 121, 364));
    }

    /** Just those texts are refused that would bring the space above 8000; the others come behind them. */
    private static void everyFourTexts(int letters, int... rows) {
        for (int code = 0; code < 6 * 6 * 6 * 6; code++) {
            int[] mosts = {code / 216, code / 36 % 6, code / 6 % 6, code % 6};
            TextSolver x = withLetters(letters);
            int space = 1;
            int texts = 0;
            for (int most : mosts) {
                boolean fits = space * rows[most] <= 8000;
                due("text(" + most + ") at space " + space, x.text(most), fits ? texts : ROOM);
                space *= fits ? rows[most] : 1;
                texts += fits ? 1 : 0;
            }
            due("told(1)", x.told(1), texts);
            due("told(5)", x.told(5), space);
        }
    }

    private static void terms() {
        test("4 twelve TERMS, numbered from 0 on", () -> {
            TextSolver x = new TextSolver();
            for (int i = 0; i < 12; i++) {
                due("term()", x.term(), i);
                due("told(2)", x.told(2), i + 1);
            }
        });
        test("4 a thirteenth TERM is ROOM", () -> refused("term()", ROOM, Sample.FULL, TextSolver::term));
        test("4 without PARTS", () -> {
            TextSolver x = new TextSolver();
            for (int i = 0; i < 12; i++) {
                x.term();
            }
            x.formula(LONGER, 11, NONE, 1, 0);
            due("it has no letter: models()", x.models(), 0);
            due("the first PART of TERM 0", x.part(0, 0), 1);
            due("the first PART of TERM 11", x.part(11, 1), 1);
        });
    }

    private static void parts() {
        test("5 UNKNOWN: the TERM", () ->
            refusedUnknown("part(n, 0)", Sample.ALL, TERMS, (x, n) -> x.part(n, 0)));
        test("5 UNKNOWN ahead of OUTSIDE", () ->
            refusedUnknown("part(n, -1)", Sample.ALL, TERMS, (x, n) -> x.part(n, -1)));
        test("5 a letter: 0 to A - 1, both ends of both A", () -> {
            for (int letters = 2; letters <= 3; letters++) {
                TextSolver x = withLetters(letters);
                x.term();
                due("part(0, 0)", x.part(0, 0), 1);
                due("part(0, A - 1)", x.part(0, letters - 1), 2);
            }
        });
        test("5 OUTSIDE: neither a letter nor 8 and more", () -> {
            int[] neither = {LEAST, LEAST + 7, LEAST + 8, LEAST + 9, -8, -2, -1, 3, 4, 5, 6, 7};
            for (int what : neither) {
                refused("part(0, " + what + ")", OUTSIDE, Sample.FILLED, x -> x.part(0, what));
            }
            refused("part(0, A)", OUTSIDE, Sample.FILLED, x -> x.part(0, x.told(0)));
        });
        test("5 the TEXT of that number less 8: the first and the last one", () -> {
            TextSolver x = new TextSolver();
            x.term();
            for (int i = 0; i < 4; i++) {
                x.text(i == 3 ? 1 : 0);
                due("part(0, 8 + " + i + ")", x.part(0, 8 + i), i + 1);
            }
            x.formula(LONGER, 0, NONE, 1, 0);
            due("just TEXT 3 has letters: models()", x.models(), 2);
        });
        test("5 OUTSIDE: no such TEXT", () -> {
            for (int more : new int[] {0, 1, 2, 24, 32, 56, 64, 256, GREATEST - 12}) {
                refused("part(0, 8 + TEXTS + " + more + ")", OUTSIDE, Sample.FILLED,
                    x -> x.part(0, 8 + x.told(TEXTS) + more));
            }
            refused("part(0, greatest)", OUTSIDE, Sample.FILLED, x -> x.part(0, GREATEST));
        });
        test("5 OUTSIDE: no TEXT at all", () -> {
            TextSolver x = new TextSolver();
            x.term();
            due("part(0, 8)", x.part(0, 8), OUTSIDE);
            due("part(0, 0), the first", x.part(0, 0), 1);
        });
        test("5 how many it has: six at most, each TERM for itself", () -> {
            TextSolver x = new TextSolver();
            x.text(1);
            for (int term = 0; term < 12; term++) {
                x.term();
            }
            for (int i = 1; i <= 6; i++) {
                for (int term = 0; term < 12; term++) {
                    due("part " + i + " of TERM " + term, x.part(term, term % 2 == 0 ? 1 : 8), i);
                }
            }
        });
        test("5 a seventh PART is ROOM, a letter as a TEXT", () -> {
            for (int term : new int[] {0, 5, 11}) {
                refused("part(" + term + ", 0)", ROOM, Sample.FULL, x -> x.part(term, 0));
                refused("part(" + term + ", 8)", ROOM, Sample.FULL, x -> x.part(term, 8));
            }
        });
        test("5 OUTSIDE ahead of ROOM", () -> {
            refused("part(0, A) of a full TERM", OUTSIDE, Sample.FULL, x -> x.part(0, x.told(0)));
            refused("part(0, no TEXT) of a full TERM", OUTSIDE, Sample.FULL, x -> x.part(0, 12));
        });
    }

    private static void machines() {
        test("6 1 to 6 STATES: both ends are taken", () -> {
            due("machine(1)", new TextSolver().machine(1), 0);
            due("machine(6)", new TextSolver().machine(6), 0);
        });
        test("6 1 to 6 STATES: on both sides OUTSIDE, ahead of ROOM", () ->
            refusedOutside("machine", OUTSIDE, Sample.ALL, 1, 6, (x, n) -> x.machine(n)));
        test("6 three MACHINES, numbered from 0 on", () -> {
            TextSolver x = new TextSolver();
            for (int i = 0; i < 3; i++) {
                due("machine(2)", x.machine(2), i);
                due("told(3)", x.told(3), i + 1);
            }
        });
        test("6 a fourth MACHINE is ROOM", () -> {
            for (int states = 1; states <= 6; states++) {
                int last = states;
                refused("machine(" + states + ")", ROOM, Sample.FULL, x -> x.machine(last));
            }
        });
        test("6 so many STATES and no more", () -> {
            for (int states = 1; states <= 6; states++) {
                TextSolver x = new TextSolver();
                x.machine(states);
                due("the last STATE", x.good(0, states - 1, true), 0);
                due("none behind it", x.good(0, states, true), OUTSIDE);
            }
        });
        test("6 all STEPS lead to STATE 0, none is GOOD", () -> {
            TextSolver x = withLetters(3);
            for (int machine = 0; machine < 3; machine++) {
                x.machine(6);
            }
            for (int code = 0; code < 18; code++) {
                due("good", x.good(code / 6, code % 6, true), 0);
                for (int letter = 0; letter < 3; letter++) {
                    due("step", x.step(code / 6, code % 6, letter, 5), 0);
                }
            }
        });
    }

    private static void steps() {
        test("7 UNKNOWN: the MACHINE", () ->
            refusedUnknown("step(n, 0, 0, 0)", Sample.ALL, MACHINES, (x, n) -> x.step(n, 0, 0, 0)));
        test("7 UNKNOWN ahead of OUTSIDE", () ->
            refusedUnknown("step(n, -1, -1, -1)", Sample.ALL, MACHINES, (x, n) -> x.step(n, -1, -1, -1)));
        test("7 OUTSIDE: the STATE from which", () -> {
            refusedOutside("step(0, n, 0, 0)", OUTSIDE, Sample.SMALL, 0, 2,
                (x, n) -> x.step(0, n, 0, 0));
            refusedOutside("step(2, n, 0, 0)", OUTSIDE, Sample.FULL, 0, 5, (x, n) -> x.step(2, n, 0, 0));
        });
        test("7 OUTSIDE: the letter", () -> {
            refusedOutside("step(0, 0, n, 0)", OUTSIDE, Sample.SMALL, 0, 1,
                (x, n) -> x.step(0, 0, n, 0));
            refusedOutside("step(2, 5, n, 0)", OUTSIDE, Sample.FULL, 0, 2, (x, n) -> x.step(2, 5, n, 0));
        });
        test("7 OUTSIDE: the STATE to which", () -> {
            refusedOutside("step(0, 0, 0, n)", OUTSIDE, Sample.SMALL, 0, 2,
                (x, n) -> x.step(0, 0, 0, n));
            refusedOutside("step(2, 0, 0, n)", OUTSIDE, Sample.FULL, 0, 5, (x, n) -> x.step(2, 0, 0, n));
        });
        test("7 the STATES are the MACHINE's own", () -> {
            refused("step(1, 2, 0, 0) of two STATES", OUTSIDE, new Sample[] {Sample.MODEL}, x -> x.step(1, 2, 0, 0));
            refused("step(1, 0, 0, 2) of two STATES", OUTSIDE, new Sample[] {Sample.MODEL}, x -> x.step(1, 0, 0, 2));
            due("step(0, 2, 0, 2) of three STATES", Sample.MODEL.make().step(0, 2, 0, 2), 0);
        });
        test("7 where it led: each STEP for itself, the first to the last", () -> {
            for (int letters = 2; letters <= 3; letters++) {
                eachStepForItself(letters);
            }
        });
        test("7 one STATE: it leads to itself", () -> {
            TextSolver x = new TextSolver();
            x.machine(1);
            due("step(0, 0, 1, 0)", x.step(0, 0, 1, 0), 0);
            due("step(0, 0, 1, 0) again", x.step(0, 0, 1, 0), 0);
            due("step(0, 1, 0, 0)", x.step(0, 1, 0, 0), OUTSIDE);
            due("step(0, 0, 0, 1)", x.step(0, 0, 0, 1), OUTSIDE);
        });
    }

    private static void eachStepForItself(int letters) {
        TextSolver x = withLetters(letters);
        for (int machine = 0; machine < 3; machine++) {
            x.machine(6);
        }
        int all = 3 * 6 * letters;
        for (int round = 0; round < 3; round++) {
            for (int code = 0; code < all; code++) {
                int led = round == 0 ? 0 : (code + round - 1) % 6;
                int from = code / letters;
                due("step " + code, x.step(from / 6, from % 6, code % letters, (code + round) % 6), led);
            }
        }
    }

    private static void goods() {
        test("8 UNKNOWN: the MACHINE", () -> {
            refusedUnknown("good(n, 0, true)", Sample.ALL, MACHINES, (x, n) -> x.good(n, 0, true));
            refusedUnknown("good(n, 0, false)", Sample.ALL, MACHINES, (x, n) -> x.good(n, 0, false));
        });
        test("8 UNKNOWN ahead of OUTSIDE", () ->
            refusedUnknown("good(n, -1, true)", Sample.ALL, MACHINES, (x, n) -> x.good(n, -1, true)));
        test("8 OUTSIDE: the STATE, the MACHINE's own", () -> {
            refusedOutside("good(0, n, true)", OUTSIDE, Sample.SMALL, 0, 2,
                (x, n) -> x.good(0, n, true));
            refusedOutside("good(1, n, false)", OUTSIDE, Sample.SMALL, 0, 1,
                (x, n) -> x.good(1, n, false));
            refusedOutside("good(2, n, true)", OUTSIDE, Sample.FULL, 0, 5, (x, n) -> x.good(2, n, true));
        });
        test("8 whether it was: each STATE for itself, the first to the last", () -> {
            TextSolver x = new TextSolver();
            for (int machine = 0; machine < 3; machine++) {
                x.machine(6);
            }
            boolean[] was = new boolean[18];
            for (int code : new int[] {0, 5, 5, 6, 17, 0, 17, 17, 11, 5, 12, 6, 0}) {
                due("good " + code, x.good(code / 6, code % 6, !was[code]), was[code] ? 1 : 0);
                was[code] = !was[code];
                due("good " + code + " as it is", x.good(code / 6, code % 6, was[code]), was[code] ? 1 : 0);
            }
            IntStream.range(0, 18).forEach(code ->
                due("good " + code + " at the end", x.good(code / 6, code % 6, false), was[code] ? 1 : 0));
        });
    }

    private static int validB(int kind) {
        return kind == SUM ? 2 : 0;
    }

    private static void formulaKinds() {
        test("9 OUTSIDE: the KIND, ahead of all", () -> {
            refusedOutside("formula(n, 0, 0, 0, 0)", OUTSIDE, Sample.ALL, 0, 6, (x, n) -> x.formula(n, 0, 0, 0, 0));
            refusedOutside("formula(n, -1, -1, -1, -1)", OUTSIDE, Sample.ALL, 0, 6,
                (x, n) -> x.formula(n, -1, -1, -1, -1));
        });
        test("9 the first KIND and the last one", () -> {
            TextSolver x = new TextSolver();
            x.term();
            due("formula(0, 0, 0, 0, 0)", x.formula(0, 0, 0, 0, 0), 0);
            due("formula(6, 0, 0, 0, 0)", x.formula(6, 0, 0, 0, 0), 1);
        });
        test("9 UNKNOWN: TERM a, of each KIND", () -> {
            for (int kind = SAME; kind <= REPLACED; kind++) {
                int k = kind;
                refusedUnknown("formula(" + kind + ", n, ..)", Sample.ALL, TERMS,
                    (x, n) -> x.formula(k, n, validB(k), 0, 0));
            }
        });
        test("9 UNKNOWN: TERM b of SAME, BEFORE, HAS, REPLACED", () -> {
            for (int kind : new int[] {SAME, BEFORE, HAS, REPLACED}) {
                refusedUnknown("formula(" + kind + ", 0, n, ..)", Sample.FILLED, TERMS,
                    (x, n) -> x.formula(kind, 0, n, 0, 0));
            }
        });
        test("9 UNKNOWN: TERM c of REPLACED", () ->
            refusedUnknown("formula(6, 0, 0, n, 0)", Sample.FILLED, TERMS, (x, n) -> x.formula(REPLACED, 0, 0, n, 0)));
        test("9 UNKNOWN: TERM d of REPLACED", () ->
            refusedUnknown("formula(6, 0, 0, 0, n)", Sample.FILLED, TERMS, (x, n) -> x.formula(REPLACED, 0, 0, 0, n)));
        test("9 UNKNOWN: the MACHINE of TAKEN", () ->
            refusedUnknown("formula(2, 0, n, 0, 0)", Sample.FILLED, MACHINES, (x, n) -> x.formula(TAKEN, 0, n, 0, 0)));
        test("9 UNKNOWN: TERM b of LONGER, but for NONE", () -> {
            for (int b : new int[] {LEAST, -3, -2, 12, 32, GREATEST}) {
                refused("formula(1, 0, " + b + ", 0, 0)", UNKNOWN, Sample.FILLED, x -> x.formula(LONGER, 0, b, 0, 0));
            }
            refused("formula(1, 0, TERMS, 0, 0)", UNKNOWN, Sample.FILLED,
                x -> x.formula(LONGER, 0, x.told(TERMS), 0, 0));
            due("formula(1, 0, NONE, 0, 0)", Sample.MODEL.make().formula(LONGER, 0, NONE, 0, 0), 5);
        });
        test("9 the last TERM and the last MACHINE are known", () -> {
            TextSolver x = new TextSolver();
            for (int i = 0; i < 12; i++) {
                x.term();
            }
            for (int i = 0; i < 3; i++) {
                x.machine(1);
            }
            for (int kind = SAME; kind <= REPLACED; kind++) {
                due("formula(" + kind + ", 11, ..)", x.formula(kind, 11, kind == TAKEN ? 2 : kind == SUM ? 3 : 11,
                    kind == SUM ? 0 : 11, 11), kind);
            }
        });
    }

    private static void formulaNumbers() {
        test("9 LONGER: c is -40 to 40, with a TERM b", () -> longerBounds(0));
        test("9 LONGER: c is -40 to 40, with b NONE", () -> longerBounds(NONE));
        test("9 SUM: b is 2 to 16", () -> {
            for (int c = 0; c <= 1; c++) {
                int rest = c;
                refusedOutside("formula(5, 0, n, " + c + ", 0)", OUTSIDE, Sample.FILLED, 2, 16,
                    (x, n) -> x.formula(SUM, 0, n, rest, 0));
            }
            for (int b : new int[] {-16, -2, 0}) {
                refused("formula(5, 0, " + b + ", 0, 0)", OUTSIDE, Sample.FILLED, x -> x.formula(SUM, 0, b, 0, 0));
            }
            due("b 2", Sample.MODEL.make().formula(SUM, 0, 2, 0, 0), 5);
            due("b 16", Sample.MODEL.make().formula(SUM, 0, 16, 0, 0), 5);
        });
        test("9 SUM: c is 0 to b - 1, for each b", () -> {
            for (int b = 2; b <= 16; b++) {
                int divisor = b;
                refusedOutside("formula(5, 0, " + b + ", n, 0)", OUTSIDE, Sample.FILLED, 0, b - 1,
                    (x, n) -> x.formula(SUM, 0, divisor, n, 0));
                due("c 0", Sample.MODEL.make().formula(SUM, 0, b, 0, 0), 5);
                due("c b - 1", Sample.MODEL.make().formula(SUM, 0, b, b - 1, 0), 5);
            }
        });
        test("9 UNKNOWN ahead of OUTSIDE", () -> {
            refusedUnknown("formula(1, n, NONE, 41, 0)", Sample.ALL, TERMS,
                (x, n) -> x.formula(LONGER, n, NONE, 41, 0));
            refused("formula(1, 0, -2, -41, 0)", UNKNOWN, Sample.FILLED, x -> x.formula(LONGER, 0, -2, -41, 0));
            refused("formula(1, 0, 12, 41, 0)", UNKNOWN, Sample.FILLED, x -> x.formula(LONGER, 0, 12, 41, 0));
            refusedUnknown("formula(5, n, 17, 0, 0)", Sample.ALL, TERMS, (x, n) -> x.formula(SUM, n, 17, 0, 0));
            refusedUnknown("formula(5, n, 2, 2, 0)", Sample.ALL, TERMS, (x, n) -> x.formula(SUM, n, 2, 2, 0));
        });
    }

    private static void longerBounds(int b) {
        refusedOutside("formula(1, 0, " + b + ", n, 0)", OUTSIDE, Sample.FILLED, -40, 40,
            (x, n) -> x.formula(LONGER, 0, b, n, 0));
        due("c -40", Sample.MODEL.make().formula(LONGER, 0, b, -40, 0), 5);
        due("c 40", Sample.MODEL.make().formula(LONGER, 0, b, 40, 0), 5);
    }

    private static void formulaRoom() {
        test("9 ten FORMULAS, numbered from 0 on", () -> {
            TextSolver x = new TextSolver();
            x.term();
            for (int i = 0; i < 10; i++) {
                due("formula", x.formula(SAME, 0, 0, 0, 0), i);
                due("told(4)", x.told(4), i + 1);
            }
        });
        test("9 an eleventh FORMULA is ROOM, of each KIND", () -> {
            for (int kind = SAME; kind <= REPLACED; kind++) {
                int k = kind;
                refused("formula(" + kind + ", ..)", ROOM, Sample.FULL, x -> x.formula(k, 0, validB(k), 0, 0));
            }
        });
        test("9 ROOM counts FORMULAS that are LEFT OUT", () -> {
            TextSolver x = new TextSolver();
            x.term();
            for (int i = 0; i < 10; i++) {
                x.formula(SAME, 0, 0, 0, 0);
                x.leave(i, true);
            }
            due("formula", x.formula(SAME, 0, 0, 0, 0), ROOM);
        });
        test("9 UNKNOWN ahead of ROOM", () -> {
            for (int kind = SAME; kind <= REPLACED; kind++) {
                int k = kind;
                refused("formula(" + kind + ", 12, ..)", UNKNOWN, Sample.FULL, x -> x.formula(k, 12, validB(k), 0, 0));
            }
            refused("formula(2, 0, 3, 0, 0)", UNKNOWN, Sample.FULL, x -> x.formula(TAKEN, 0, 3, 0, 0));
            refused("formula(6, 0, 0, 0, 12)", UNKNOWN, Sample.FULL, x -> x.formula(REPLACED, 0, 0, 0, 12));
        });
        test("9 OUTSIDE ahead of ROOM", () -> {
            refused("formula(7, 0, 0, 0, 0)", OUTSIDE, Sample.FULL, x -> x.formula(7, 0, 0, 0, 0));
            refused("formula(1, 0, NONE, 41, 0)", OUTSIDE, Sample.FULL, x -> x.formula(LONGER, 0, NONE, 41, 0));
            refused("formula(5, 0, 1, 0, 0)", OUTSIDE, Sample.FULL, x -> x.formula(SUM, 0, 1, 0, 0));
            refused("formula(5, 0, 16, 16, 0)", OUTSIDE, Sample.FULL, x -> x.formula(SUM, 0, 16, 16, 0));
        });
    }

    private static void formulaNotLookedAt() {
        test("9 SAME, TAKEN, BEFORE, HAS have no c and no d", () -> {
            for (int kind : new int[] {SAME, TAKEN, BEFORE, HAS}) {
                for (int wild : WILD) {
                    notLookedAt(kind, 0, wild, wild);
                }
            }
        });
        test("9 LONGER has no d", () -> {
            for (int wild : WILD) {
                notLookedAt(LONGER, 0, 0, wild);
                notLookedAt(LONGER, NONE, 0, wild);
            }
        });
        test("9 SUM has no d, and its b and c are no TERMS", () -> {
            for (int wild : WILD) {
                notLookedAt(SUM, 16, 15, wild);
            }
        });
    }

    /** The formula comes, and its models are those of one with plain numbers. */
    private static void notLookedAt(int kind, int b, int c, int d) {
        boolean hasC = kind == LONGER || kind == SUM;
        TextSolver x = Sample.MODEL.make();
        TextSolver plain = Sample.MODEL.make();
        due("formula(" + kind + ", 0, " + b + ", " + c + ", " + d + ")", x.formula(kind, 0, b, c, d), 5);
        plain.formula(kind, 0, b, hasC ? c : 0, 0);
        due("its models()", x.models(), plain.models());
    }

    private static void denials() {
        test("10 UNKNOWN", () -> {
            refusedUnknown("deny(n, true)", Sample.ALL, FORMULAS, (x, n) -> x.deny(n, true));
            refusedUnknown("deny(n, false)", Sample.ALL, FORMULAS, (x, n) -> x.deny(n, false));
        });
        test("10 not at first; whether it was: each FORMULA for itself, the first to the last", () -> {
            TextSolver x = tenFormulas();
            for (int f : new int[] {0, 9, 4}) {
                due("deny(" + f + ", false) at first", x.deny(f, false), 0);
                due("deny(" + f + ", true)", x.deny(f, true), 0);
                due("deny(" + f + ", true) again", x.deny(f, true), 1);
            }
            for (int f = 0; f < 10; f++) {
                boolean is = f == 0 || f == 9 || f == 4;
                due("deny(" + f + ", false)", x.deny(f, false), is ? 1 : 0);
                due("leave(" + f + ", false) is another thing", x.leave(f, false), 0);
            }
        });
    }

    private static void leavings() {
        test("11 UNKNOWN", () -> {
            refusedUnknown("leave(n, true)", Sample.ALL, FORMULAS, (x, n) -> x.leave(n, true));
            refusedUnknown("leave(n, false)", Sample.ALL, FORMULAS, (x, n) -> x.leave(n, false));
        });
        test("11 not at first; whether it was: each FORMULA for itself, the first to the last", () -> {
            TextSolver x = tenFormulas();
            for (int f : new int[] {0, 9, 5}) {
                due("leave(" + f + ", false) at first", x.leave(f, false), 0);
                due("leave(" + f + ", true)", x.leave(f, true), 0);
                due("leave(" + f + ", true) again", x.leave(f, true), 1);
            }
            for (int f = 0; f < 10; f++) {
                boolean is = f == 0 || f == 9 || f == 5;
                due("leave(" + f + ", false)", x.leave(f, false), is ? 1 : 0);
                due("deny(" + f + ", false) is another thing", x.deny(f, false), 0);
            }
        });
    }

    private static TextSolver tenFormulas() {
        TextSolver x = new TextSolver();
        x.term();
        for (int i = 0; i < 10; i++) {
            x.formula(SAME, 0, 0, 0, 0);
        }
        return x;
    }

    public static void main(String[] args) {
        constants();
        newObject();
        clearCalls();
        texts();
        terms();
        parts();
        machines();
        steps();
        goods();
        formulaKinds();
        formulaNumbers();
        formulaRoom();
        formulaNotLookedAt();
        denials();
        leavings();
        end();
    }
}
