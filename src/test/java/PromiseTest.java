/** Each promise of the document in ordinary calls, at its edges, and in calls that it refuses. */
public final class PromiseTest extends Check {
    private static void newObject() {
        dueTold("1 new", new TextSolver(), 2, 0, 0, 0, 0, 1, 0);
        TextSolver x = new TextSolver();
        due("1 no term", x.part(0, 0), UNKNOWN);
        due("1 no machine", x.good(0, 0, true), UNKNOWN);
        due("1 no formula", x.deny(0, true), UNKNOWN);
        due("1 no text", x.letter(0, 0), UNKNOWN);
        due("1 models", x.models(), 1);
        TextSolver other = new TextSolver();
        x.text(2);
        due("1 objects are apart", other.told(1), 0);
    }

    private static void clearCalls() {
        TextSolver x = withLetters(2);
        x.text(2);
        termOf(x, "x0");
        x.machine(3);
        x.step(0, 0, 0, 2);
        x.good(0, 0, true);
        x.formula(TAKEN, 0, 0, 0, 0);
        x.formula(SAME, 0, 0, 0, 0);
        x.deny(0, true);
        x.leave(1, true);
        due("2 solve", x.solve(), 1);
        for (int letters : new int[] {LEAST, -1, 0, 1, 4, 5, GREATEST}) {
            due("2 clear(" + letters + ")", x.clear(letters), OUTSIDE);
        }
        dueTold("2 refused", x, 2, 1, 1, 1, 2, 7, 1);
        due("2 clear(3)", x.clear(3), 2);
        dueTold("2 cleared", x, 3, 0, 0, 0, 0, 1, 0);
        due("2 clear again", x.clear(2), 0);
        due("2 length", x.length(0), UNKNOWN);
        due("2 text is new", x.text(1), 0);
        due("2 space is new", x.told(5), 3);
        due("2 term is new", x.term(), 0);
        due("2 term has no parts", x.part(0, 1), 1);
        due("2 machine is new", x.machine(3), 0);
        due("2 step is new", x.step(0, 0, 0, 0), 0);
        due("2 good is new", x.good(0, 0, false), 0);
        due("2 formula is new", x.formula(SAME, 0, 0, 0, 0), 0);
        due("2 not denied", x.deny(0, false), 0);
        due("2 not left out", x.leave(0, false), 0);
        due("2 models", x.models(), 3);
        x.clear(2);
        termOf(x, "0");
        x.formula(LONGER, 0, NONE, 2, 0);
        due("2 the new formula is not the old one", x.models(), 0);
        x.clear(2);
        x.text(2);
        x.model(4);
        x.clear(3);
        x.text(2);
        due("2 another model 5", x.model(5), 1);
        dueRow("2 another model 5", x, 0, "01");
    }

    private static void texts() {
        TextSolver x = new TextSolver();
        for (int most : new int[] {LEAST, -1, 6, GREATEST}) {
            due("3 text(" + most + ")", x.text(most), OUTSIDE);
        }
        for (int i = 0; i < 4; i++) {
            due("3 text " + i, x.text(0), i);
        }
        x.solve();
        due("3 fifth text", x.text(0), ROOM);
        due("3 OUTSIDE ahead of ROOM", x.text(6), OUTSIDE);
        dueTold("3 refused", x, 2, 4, 0, 0, 0, 1, 1);

        x = new TextSolver();
        int[] twoLetters = {1, 3, 7, 15, 31, 63};
        int[] threeLetters = {1, 4, 13, 40, 121, 364};
        for (int most = 0; most <= 5; most++) {
            x.clear(2);
            x.text(most);
            due("3 space of 2 letters", x.told(5), twoLetters[most]);
            due("3 models of 2 letters", x.models(), twoLetters[most]);
            x.clear(3);
            x.text(most);
            due("3 space of 3 letters", x.told(5), threeLetters[most]);
            due("3 models of 3 letters", x.models(), threeLetters[most]);
        }
        x.clear(2);
        x.text(4);
        x.text(3);
        due("3 third text", x.text(3), 2);
        due("3 6975", x.told(5), 6975);
        due("3 20925 is too much", x.text(1), ROOM);
        due("3 still 6975", x.told(5), 6975);
        due("3 fourth text", x.text(0), 3);
        due("3 all models", x.models(), 6975);
        x.clear(3);
        x.text(2);
        x.text(2);
        x.text(2);
        due("3 8788 is too much", x.text(1), ROOM);
        due("3 2197", x.told(5), 2197);
        // 7744 and 8320 are the nearest to 8000 that three letters allow, 6975 and 8505 for two.
        dueSpace(3, 7744, 3, 4, 1, 1, 1);
        dueSpace(3, 40 * 13 * 4, ROOM, 3, 2, 1, 1);
        dueSpace(2, 63 * 15 * 3, ROOM, 5, 3, 1, 1);

        x.clear(2);
        x.text(1);
        termOf(x, "x");
        x.formula(LONGER, 0, NONE, 1, 0);
        due("3 models of one text", x.models(), 2);
        x.model(0);
        x.text(1);
        due("3 models of two texts", x.models(), 6);
        due("3 the last one", x.model(5), 1);
        dueRow("3 the last one", x, 0, "1");
        dueRow("3 the last one", x, 1, "1");
    }

    private static void dueSpace(int letters, int space, int last, int... mosts) {
        TextSolver x = withLetters(letters);
        for (int i = 0; i < mosts.length; i++) {
            due("3 text(" + mosts[i] + ") near 8000", x.text(mosts[i]), i < mosts.length - 1 ? i : last);
        }
        due("3 space near 8000", x.told(5), space);
        due("3 models near 8000", x.models(), space);
        due("3 the last model near 8000", x.model(space - 1), 1);
        due("3 none behind it", x.model(space), 0);
    }

    private static void terms() {
        TextSolver x = new TextSolver();
        for (int i = 0; i < 12; i++) {
            due("4 term " + i, x.term(), i);
        }
        x.solve();
        due("4 thirteenth term", x.term(), ROOM);
        dueTold("4 refused", x, 2, 0, 12, 0, 0, 1, 1);
        due("4 no parts: as long as nothing", x.formula(LONGER, 11, NONE, 1, 0), 0);
        due("4 no parts", x.solve(), 0);
    }

    private static void parts() {
        TextSolver x = new TextSolver();
        x.text(2);
        x.term();
        x.term();
        x.solve();
        for (int term : new int[] {LEAST, -1, 2, GREATEST}) {
            due("5 part of " + term, x.part(term, 0), UNKNOWN);
            due("5 UNKNOWN ahead of OUTSIDE", x.part(term, 99), UNKNOWN);
        }
        for (int what : new int[] {LEAST, -1, 2, 3, 7, 9, 10, GREATEST}) {
            due("5 part " + what, x.part(0, what), OUTSIDE);
        }
        due("5 refused: still at hand", x.told(6), 1);
        int[] what = {0, 1, 8, 8, 0, 1};
        for (int i = 0; i < 6; i++) {
            due("5 part " + i, x.part(0, what[i]), i + 1);
        }
        x.solve();
        due("5 seventh part", x.part(0, 0), ROOM);
        due("5 OUTSIDE ahead of ROOM", x.part(0, 2), OUTSIDE);
        due("5 refused: still at hand", x.told(6), 1);
        due("5 the other term", x.part(1, 8), 1);

        x.clear(3);
        x.term();
        due("5 third letter", x.part(0, 2), 1);
        due("5 no fourth letter", x.part(0, 3), OUTSIDE);
        due("5 no text", x.part(0, 8), OUTSIDE);

        x = new TextSolver();
        x.text(3);
        termOf(x, "x");
        termOf(x, "0");
        x.formula(SAME, 0, 1, 0, 0);
        x.solve();
        dueRow("5 x is 0", x, 0, "0");
        x.part(1, 1);
        x.solve();
        dueRow("5 the formula sees the new part of b", x, 0, "01");
        x.part(0, 1);
        x.solve();
        dueRow("5 the formula sees the new part of a", x, 0, "0");
        termOf(x, "");
        termOf(x, "");
        x.formula(REPLACED, 0, 1, 2, 3);
        due("5 nothing for nothing", x.models(), 1);
        x.part(3, 1);
        due("5 the formula sees the new part of d", x.models(), 0);
        x.part(2, 1);
        due("5 the formula sees the new part of c", x.models(), 1);
    }

    private static void machines() {
        TextSolver x = new TextSolver();
        for (int states : new int[] {LEAST, -1, 0, 7, GREATEST}) {
            due("6 machine(" + states + ")", x.machine(states), OUTSIDE);
        }
        due("6 machine 0", x.machine(1), 0);
        due("6 machine 1", x.machine(6), 1);
        due("6 machine 2", x.machine(3), 2);
        x.solve();
        due("6 fourth machine", x.machine(1), ROOM);
        due("6 OUTSIDE ahead of ROOM", x.machine(7), OUTSIDE);
        dueTold("6 refused", x, 2, 0, 0, 3, 0, 1, 1);
        for (int state = 0; state < 6; state++) {
            due("6 no state is good", x.good(1, state, true), 0);
            due("6 steps lead to 0", x.step(1, state, 0, 5), 0);
            due("6 steps lead to 0", x.step(1, state, 1, 5), 0);
        }
    }

    private static void steps() {
        TextSolver x = new TextSolver();
        x.machine(3);
        x.machine(6);
        x.solve();
        for (int machine : new int[] {LEAST, -1, 2, 3, GREATEST}) {
            due("7 step of machine " + machine, x.step(machine, 0, 0, 0), UNKNOWN);
            due("7 UNKNOWN ahead of OUTSIDE", x.step(machine, -1, -1, -1), UNKNOWN);
        }
        for (int odd : new int[] {LEAST, -1, 3, 5, GREATEST}) {
            due("7 state " + odd, x.step(0, odd, 0, 0), OUTSIDE);
            due("7 letter " + odd, x.step(0, 0, odd, 0), OUTSIDE);
            due("7 to " + odd, x.step(0, 0, 0, odd), OUTSIDE);
        }
        due("7 letter 2 of 2", x.step(0, 0, 2, 0), OUTSIDE);
        due("7 refused: still at hand", x.told(6), 1);
        due("7 led to 0", x.step(0, 2, 1, 2), 0);
        due("7 led to 2", x.step(0, 2, 1, 1), 2);
        due("7 led to 1", x.step(0, 2, 1, 1), 1);
        due("7 the other letter", x.step(0, 2, 0, 1), 0);
        due("7 the other state", x.step(0, 1, 1, 1), 0);
        due("7 the other machine", x.step(1, 2, 1, 5), 0);
        x.clear(3);
        x.machine(2);
        due("7 letter 2 of 3", x.step(0, 0, 2, 1), 0);
        due("7 letter 2 led to 1", x.step(0, 0, 2, 0), 1);
        due("7 letter 3 of 3", x.step(0, 0, 3, 1), OUTSIDE);

        x.clear(2);
        x.text(1);
        termOf(x, "x");
        x.machine(2);
        x.good(0, 1, true);
        x.formula(TAKEN, 0, 0, 0, 0);
        due("7 nothing is taken", x.models(), 0);
        x.step(0, 0, 1, 1);
        due("7 the formula sees the step", x.models(), 1);
        x.solve();
        dueRow("7 taken", x, 0, "1");
    }

    private static void goods() {
        TextSolver x = new TextSolver();
        x.machine(2);
        x.solve();
        for (int machine : new int[] {LEAST, -1, 1, GREATEST}) {
            due("8 good of machine " + machine, x.good(machine, 0, true), UNKNOWN);
            due("8 UNKNOWN ahead of OUTSIDE", x.good(machine, -1, true), UNKNOWN);
        }
        for (int state : new int[] {LEAST, -1, 2, 32, GREATEST}) {
            due("8 state " + state, x.good(0, state, true), OUTSIDE);
        }
        due("8 refused: still at hand", x.told(6), 1);
        due("8 was not good", x.good(0, 1, true), 0);
        due("8 was good", x.good(0, 1, true), 1);
        due("8 was good", x.good(0, 1, false), 1);
        due("8 was not good", x.good(0, 1, false), 0);
        due("8 the other state", x.good(0, 0, true), 0);

        x.term();
        x.formula(TAKEN, 0, 0, 0, 0);
        due("8 state 0 is good: nothing is taken", x.models(), 1);
        x.good(0, 0, false);
        due("8 the formula sees it", x.models(), 0);
    }

    private static void formulaRefusals() {
        TextSolver x = new TextSolver();
        x.term();
        x.term();
        x.machine(1);
        x.solve();
        for (int kind : new int[] {LEAST, -1, 7, GREATEST}) {
            due("9 kind " + kind, x.formula(kind, 0, 0, 0, 0), OUTSIDE);
            due("9 the kind is ahead of UNKNOWN", x.formula(kind, 99, 0, 0, 0), OUTSIDE);
        }
        for (int odd : new int[] {LEAST, -1, 2, 11, GREATEST}) {
            for (int kind = SAME; kind <= REPLACED; kind++) {
                int b = kind == SUM ? 2 : 0;
                due("9 kind " + kind + " of " + odd, x.formula(kind, odd, b, 0, 0), UNKNOWN);
            }
            due("9 SAME b", x.formula(SAME, 0, odd, 0, 0), UNKNOWN);
            due("9 BEFORE b", x.formula(BEFORE, 0, odd, 0, 0), UNKNOWN);
            due("9 HAS b", x.formula(HAS, 0, odd, 0, 0), UNKNOWN);
            due("9 REPLACED b", x.formula(REPLACED, 0, odd, 0, 0), UNKNOWN);
            due("9 REPLACED c", x.formula(REPLACED, 0, 0, odd, 0), UNKNOWN);
            due("9 REPLACED d", x.formula(REPLACED, 0, 0, 0, odd), UNKNOWN);
        }
        due("9 TAKEN by no machine", x.formula(TAKEN, 0, 1, 0, 0), UNKNOWN);
        due("9 TAKEN by no machine", x.formula(TAKEN, 0, -1, 0, 0), UNKNOWN);
        due("9 LONGER b", x.formula(LONGER, 0, 2, 0, 0), UNKNOWN);
        due("9 LONGER b", x.formula(LONGER, 0, -2, 0, 0), UNKNOWN);
        due("9 LONGER: UNKNOWN ahead of OUTSIDE", x.formula(LONGER, 0, 2, 41, 0), UNKNOWN);
        due("9 SUM: UNKNOWN ahead of OUTSIDE", x.formula(SUM, 2, 1, 0, 0), UNKNOWN);
        for (int c : new int[] {LEAST, -41, 41, GREATEST}) {
            due("9 LONGER by " + c, x.formula(LONGER, 0, 1, c, 0), OUTSIDE);
        }
        for (int b : new int[] {LEAST, -2, 0, 1, 17, GREATEST}) {
            due("9 SUM by " + b, x.formula(SUM, 0, b, 0, 0), OUTSIDE);
        }
        for (int c : new int[] {LEAST, -1, 3, GREATEST}) {
            due("9 SUM rest " + c, x.formula(SUM, 0, 3, c, 0), OUTSIDE);
        }
        due("9 refused: none", x.told(4), 0);
        due("9 refused: still at hand", x.told(6), 1);
    }

    private static void formulaNumbers() {
        TextSolver x = new TextSolver();
        x.term();
        x.machine(1);
        due("9 SAME looks at a, b", x.formula(SAME, 0, 0, 99, -99), 0);
        due("9 LONGER looks at a, b, c", x.formula(LONGER, 0, NONE, 40, 99), 1);
        due("9 LONGER -40", x.formula(LONGER, 0, 0, -40, LEAST), 2);
        due("9 TAKEN looks at a, b", x.formula(TAKEN, 0, 0, 99, 99), 3);
        due("9 BEFORE looks at a, b", x.formula(BEFORE, 0, 0, -99, 99), 4);
        due("9 HAS looks at a, b", x.formula(HAS, 0, 0, 99, 99), 5);
        due("9 SUM looks at a, b, c", x.formula(SUM, 0, 16, 15, 99), 6);
        due("9 SUM 2", x.formula(SUM, 0, 2, 0, -99), 7);
        due("9 SUM 2", x.formula(SUM, 0, 2, 1, -99), 8);
        due("9 REPLACED", x.formula(REPLACED, 0, 0, 0, 0), 9);
        x.core();
        due("9 eleventh formula", x.formula(SAME, 0, 0, 0, 0), ROOM);
        due("9 UNKNOWN ahead of ROOM", x.formula(SAME, 0, 1, 0, 0), UNKNOWN);
        due("9 OUTSIDE ahead of ROOM", x.formula(SUM, 0, 1, 0, 0), OUTSIDE);
        due("9 refused", x.told(4), 10);
        due("9 refused: there is still a core", x.inCore(9), 0);
    }

    private static void formulaMeanings() {
        dueSo(2, SAME, true, "", "");
        dueSo(2, SAME, true, "0110", "0110");
        dueSo(2, SAME, false, "0110", "0111");
        dueSo(2, SAME, false, "01", "011");
        dueSo(2, SAME, false, "", "0");
        dueSo(2, LONGER, true, "01", "1", 1);
        dueSo(2, LONGER, false, "01", "1", 2);
        dueSo(2, LONGER, true, "01", "11", 0);
        dueSo(2, LONGER, true, "", "111", -3);
        dueSo(2, LONGER, false, "", "111", -2);
        dueSo(2, LONGER, true, "010", NONE, 3);
        dueSo(2, LONGER, false, "010", NONE, 4);
        dueSo(2, LONGER, false, "111111", "", 40);
        dueSo(2, LONGER, true, "", "111111", -40);
        dueSo(2, BEFORE, true, "", "0");
        dueSo(2, BEFORE, false, "", "");
        dueSo(2, BEFORE, false, "0", "");
        dueSo(2, BEFORE, true, "01", "1");
        dueSo(2, BEFORE, false, "1", "01");
        dueSo(2, BEFORE, false, "01", "01");
        dueSo(2, BEFORE, true, "01", "010");
        dueSo(2, BEFORE, false, "010", "01");
        dueSo(3, BEFORE, true, "0122", "02");
        dueSo(2, HAS, true, "0110", "11");
        dueSo(2, HAS, true, "0110", "10");
        dueSo(2, HAS, true, "0110", "01");
        dueSo(2, HAS, false, "0110", "111");
        dueSo(2, HAS, false, "0110", "00");
        dueSo(2, HAS, true, "0110", "");
        dueSo(2, HAS, true, "", "");
        dueSo(2, HAS, false, "", "1");
        dueSo(2, HAS, false, "11", "111");
        dueSo(2, HAS, true, "00101", "0101");
        dueSo(2, SUM, true, "", 16, 0);
        dueSo(2, SUM, false, "", 16, 1);
        dueSo(2, SUM, true, "0", 2, 1);
        dueSo(2, SUM, true, "00", 7, 4);
        dueSo(2, SUM, false, "00", 7, 3);
        dueSo(2, SUM, true, "00", 16, 0);
        dueSo(3, SUM, true, "222222", 13, 5);
        dueSo(2, REPLACED, true, "00", "00", "1", "01");
        dueSo(2, REPLACED, false, "0", "00", "1", "0");
        dueSo(2, REPLACED, true, "00110", "0110", "1", "01");
        dueSo(2, REPLACED, true, "01010", "0110", "1", "10");
        dueSo(2, REPLACED, false, "01100", "0110", "1", "10");
        dueSo(2, REPLACED, true, "01010", "0110", "11", "101");
        dueSo(2, REPLACED, true, "1001", "001", "", "1");
        dueSo(2, REPLACED, false, "0011", "001", "", "1");
        dueSo(2, REPLACED, true, "1", "", "", "1");
        dueSo(2, REPLACED, true, "", "", "1", "0");
        dueSo(2, REPLACED, true, "00", "0110", "11", "");
        dueSo(2, REPLACED, true, "", "01", "01", "");
        dueSo(2, REPLACED, false, "01", "01", "01", "");
        dueSo(2, REPLACED, true, "0111", "111", "11", "011");
        dueSo(2, REPLACED, true, "01", "111", "11", "0");
        dueSo(2, REPLACED, false, "10", "111", "11", "0");
    }

    private static void longestTerms() {
        TextSolver x = new TextSolver();
        x.text(5);
        x.text(5);
        termOf(x, "xxxxxx");
        termOf(x, "xxxxxy");
        x.formula(SAME, 0, 1, 0, 0);
        due("9 SAME of 30 letters: y is x", x.models(), 63);
        x.leave(0, true);
        x.formula(LONGER, 0, NONE, 30, 0);
        due("9 LONGER of 30 letters", x.models(), 32 * 63);
        x.formula(BEFORE, 0, 1, 0, 0);
        x.formula(LONGER, 1, 0, 0, 0);
        due("9 BEFORE of 30 letters: x is before y", x.models(), 31 * 32 / 2);
        x.formula(REPLACED, 1, 0, termOf(x, "x"), termOf(x, "y"));
        due("9 REPLACED of 30 letters: the first x goes, not the last", x.models(), 0);
        x.deny(4, true);
        due("9 REPLACED of 30 letters, denied", x.models(), 31 * 32 / 2);
    }

    private static void longSums() {
        // 31 h + letter + 1 goes round within eight letters: 00000000 gives -1635069824.
        int[] rests = {0, 1, 0, 1, 4, 4, 0, 1, 6, 8, 4, 2, 4, 1, 0};
        for (int divisor = 2; divisor <= 16; divisor++) {
            for (int rest = 0; rest < divisor; rest++) {
                TextSolver x = new TextSolver();
                x.text(2);
                termOf(x, "xxxx");
                x.formula(SAME, termOf(x, "x"), termOf(x, "00"), 0, 0);
                x.formula(SUM, 0, divisor, rest, 0);
                due("9 SUM " + divisor + ", " + rest + " of 00000000", x.models(),
                    rest == rests[divisor - 2] ? 1 : 0);
            }
        }
    }

    private static void taken() {
        TextSolver x = withLetters(3);
        x.text(2);
        termOf(x, "x2");
        x.machine(2);
        x.step(0, 0, 2, 1);
        x.step(0, 1, 2, 0);
        x.step(0, 1, 0, 1);
        x.good(0, 1, true);
        x.formula(TAKEN, 0, 0, 0, 0);
        // The 2 behind x leads to state 1 just from state 0: these are the rows that lead there.
        String[] rows = {"", "0", "1", "00", "01", "10", "11", "21", "22"};
        due("9 TAKEN", x.models(), rows.length);
        for (int k = 0; k < rows.length; k++) {
            x.model(k);
            dueRow("9 TAKEN", x, 0, rows[k]);
        }
        x.deny(0, true);
        due("9 not TAKEN", x.models(), 13 - rows.length);
    }

    private static void denials() {
        TextSolver x = new TextSolver();
        x.text(1);
        termOf(x, "x");
        x.formula(LONGER, 0, NONE, 1, 0);
        for (int formula : new int[] {LEAST, -1, 1, 10, GREATEST}) {
            x.solve();
            due("10 deny " + formula, x.deny(formula, true), UNKNOWN);
            due("10 refused: still at hand", x.told(6), 1);
        }
        due("10 models", x.models(), 2);
        due("10 was not", x.deny(0, true), 0);
        due("10 none at hand", x.told(6), 0);
        due("10 denied", x.models(), 1);
        due("10 was", x.deny(0, true), 1);
        due("10 was", x.deny(0, false), 1);
        due("10 was not", x.deny(0, false), 0);
        due("10 models", x.models(), 2);
    }

    private static void leavings() {
        TextSolver x = new TextSolver();
        x.text(1);
        termOf(x, "x");
        x.formula(LONGER, 0, NONE, 1, 0);
        for (int formula : new int[] {LEAST, -1, 1, 10, GREATEST}) {
            x.solve();
            due("11 leave " + formula, x.leave(formula, true), UNKNOWN);
            due("11 refused: still at hand", x.told(6), 1);
        }
        due("11 was not", x.leave(0, true), 0);
        due("11 none at hand", x.told(6), 0);
        due("11 left out", x.models(), 3);
        x.deny(0, true);
        due("11 left out and denied", x.models(), 3);
        due("11 was", x.leave(0, true), 1);
        due("11 was", x.leave(0, false), 1);
        due("11 was not", x.leave(0, false), 0);
        due("11 still denied", x.models(), 1);
    }

    private static void solving() {
        TextSolver x = new TextSolver();
        due("12 without texts", x.solve(), 1);
        due("12 at hand", x.told(6), 1);
        x.text(2);
        termOf(x, "x");
        termOf(x, "1");
        x.formula(HAS, 0, 1, 0, 0);
        due("12 solve", x.solve(), 1);
        dueRow("12 the first one", x, 0, "1");
        x.model(3);
        due("12 solve again", x.solve(), 1);
        dueRow("12 the first one again", x, 0, "1");
        x.formula(LONGER, 0, NONE, 3, 0);
        due("12 none", x.solve(), 0);
        due("12 none at hand", x.told(6), 0);
        due("12 none at hand", x.length(0), STATE);
    }

    private static void modelOrder() {
        TextSolver x = new TextSolver();
        x.text(1);
        x.text(1);
        String[] rows = {",", ",0", ",1", "0,", "1,", "0,0", "0,1", "1,0", "1,1"};
        dueModels("13 order", x, rows);
        for (int k : new int[] {9, 10, GREATEST, -1, LEAST}) {
            due("13 model(" + k + ")", x.model(k), 0);
            dueRow("13 what is at hand stays", x, 0, "1");
            due("13 at hand", x.told(6), 1);
        }
        x.text(0);
        due("13 none at hand", x.told(6), 0);
        due("13 no such one, none at hand", x.model(9), 0);
        due("13 still none", x.told(6), 0);

        x = withLetters(3);
        x.text(2);
        rows = new String[] {"", "0", "1", "2", "00", "01", "02", "10", "11", "12", "20", "21", "22"};
        dueModels("13 three letters", x, rows);

        x = new TextSolver();
        x.text(2);
        x.text(1);
        termOf(x, "xy");
        termOf(x, "1");
        x.formula(HAS, 0, 1, 0, 0);
        x.formula(LONGER, 0, NONE, 3, 0);
        x.deny(1, true);
        rows = new String[] {",1", "1,", "0,1", "1,0", "1,1", "01,", "10,", "11,"};
        dueModels("13 with formulas", x, rows);
    }

    private static void modelsAtTheEnd() {
        TextSolver x = new TextSolver();
        x.text(5);
        x.text(5);
        due("14 all", x.models(), 3969);
        due("14 the last", x.model(3968), 1);
        dueRow("14 the last", x, 0, "11111");
        dueRow("14 the last", x, 1, "11111");
        due("14 none behind it", x.model(3969), 0);
        due("14 models leaves what is at hand", x.models() + x.told(6), 3970);
        termOf(x, "x");
        x.formula(LONGER, 0, NONE, 6, 0);
        due("14 none", x.models(), 0);
        x.deny(0, true);
        due("14 all, by what is not so", x.models(), 3969);
        due("14 none behind the space", x.model(3969), 0);
        x.formula(SAME, 0, termOf(x, "y"), 0, 0);
        due("14 as many as rows", x.models(), 63);
        due("14 the last", x.model(62), 1);
        dueRow("14 the last", x, 1, "11111");
    }

    private static void reading() {
        TextSolver x = withLetters(3);
        x.text(3);
        x.text(2);
        due("15 none at hand", x.length(0), STATE);
        due("16 none at hand", x.letter(0, 0), STATE);
        due("16 STATE ahead of NONE", x.letter(0, -1), STATE);
        for (int text : new int[] {LEAST, -1, 2, 4, GREATEST}) {
            due("15 UNKNOWN ahead of STATE", x.length(text), UNKNOWN);
            due("16 UNKNOWN ahead of STATE", x.letter(text, 0), UNKNOWN);
        }
        termOf(x, "xy");
        termOf(x, "20112");
        x.formula(SAME, 0, 1, 0, 0);
        due("15 solve", x.solve(), 1);
        due("15 length 0", x.length(0), 3);
        due("15 length 1", x.length(1), 2);
        int[] first = {2, 0, 1, NONE, NONE};
        int[] second = {1, 2, NONE, NONE, NONE};
        for (int i = 0; i < 5; i++) {
            due("16 letter 0, " + i, x.letter(0, i), first[i]);
            due("16 letter 1, " + i, x.letter(1, i), second[i]);
        }
        for (int i : new int[] {LEAST, -1, GREATEST}) {
            due("16 letter 0, " + i, x.letter(0, i), NONE);
            due("16 letter 1, " + i, x.letter(1, i), NONE);
        }
        for (int text : new int[] {LEAST, -1, 2, GREATEST}) {
            due("15 text " + text, x.length(text), UNKNOWN);
            due("16 text " + text, x.letter(text, 0), UNKNOWN);
        }
        x.term();
        due("15 none at hand", x.length(0), STATE);
        due("16 none at hand", x.letter(0, 0), STATE);
    }

    private static void holding() {
        TextSolver x = new TextSolver();
        x.text(2);
        termOf(x, "x");
        termOf(x, "1");
        x.formula(HAS, 0, 1, 0, 0);
        x.formula(LONGER, 0, NONE, 1, 0);
        x.leave(0, true);
        due("17 none at hand", x.holds(0), STATE);
        due("17 UNKNOWN ahead of STATE", x.holds(2), UNKNOWN);
        x.solve();
        due("17 left out, not so", x.holds(0), 0);
        due("17 so", x.holds(1), 1);
        x.model(1);
        due("17 left out, so", x.holds(0), 1);
        for (int formula : new int[] {LEAST, -1, 2, 10, GREATEST}) {
            due("17 formula " + formula, x.holds(formula), UNKNOWN);
        }
        x.deny(1, true);
        due("17 none at hand", x.holds(1), STATE);
        x.solve();
        due("17 denied: as it is", x.holds(1), 0);
    }

    private static void cores() {
        TextSolver x = new TextSolver();
        x.text(1);
        termOf(x, "x");
        termOf(x, "0");
        termOf(x, "1");
        x.formula(SAME, 0, 1, 0, 0);
        due("18 there is a model", x.core(), STATE);
        due("19 none was found", x.inCore(0), STATE);
        due("19 UNKNOWN ahead of STATE", x.inCore(1), UNKNOWN);
        x.solve();
        due("18 there is a model", x.core(), STATE);
        due("18 refused: still at hand", x.told(6), 1);
        x.formula(SAME, 0, 2, 0, 0);
        x.formula(LONGER, 0, NONE, 1, 0);
        x.formula(HAS, 0, 1, 0, 0);
        x.deny(3, true);
        // Without 3, 2, in turn, there is no model still; without 1 or 0 there would be one.
        due("18 core", x.core(), 2);
        dueCore("19 from the last one on", x, 1, 1, 0, 0);
        due("19 solve leaves it", x.solve(), 0);
        dueCore("19 solve leaves it", x, 1, 1, 0, 0);
        for (int formula : new int[] {LEAST, -1, 4, 10, 32, GREATEST}) {
            due("19 formula " + formula, x.inCore(formula), UNKNOWN);
        }
        due("18 refused calls leave it", x.leave(4, true), UNKNOWN);
        dueCore("19 refused calls leave it", x, 1, 1, 0, 0);
        x.leave(1, true);
        due("19 none was found since", x.inCore(0), STATE);
        due("18 without the one left out", x.core(), 2);
        dueCore("19 without the one left out", x, 1, 0, 0, 1);
        x.leave(1, true);
        due("19 none was found since, though nothing is new", x.inCore(0), STATE);

        x.clear(2);
        termOf(x, "0");
        x.formula(LONGER, 0, NONE, 2, 0);
        x.formula(SAME, 0, 0, 0, 0);
        x.deny(1, true);
        due("18 one would do, the first stays", x.core(), 1);
        dueCore("19 one would do, the first stays", x, 1, 0);
    }

    /** Each call from clear to leave, not refused, leaves no model at hand and no core. */
    private static void findingsGo() {
        for (int call = 0; call < 10; call++) {
            TextSolver x = new TextSolver();
            x.text(1);
            termOf(x, "x");
            x.machine(2);
            x.formula(SAME, 0, 0, 0, 0);
            x.solve();
            change(x, call);
            due("terms: call " + call + " leaves no model at hand", x.told(6), 0);

            x.formula(SAME, x.term(), x.term(), 0, 0);
            x.deny(x.told(4) - 1, true);
            due("terms: call " + call + " core", x.core(), 1);
            change(x, call);
            due("terms: call " + call + " leaves no core", x.inCore(0), call == 0 ? UNKNOWN : STATE);
        }
    }

    private static void change(TextSolver x, int call) {
        switch (call) {
            case 0 -> x.clear(2);
            case 1 -> x.text(1);
            case 2 -> x.term();
            case 3 -> x.part(0, 0);
            case 4 -> x.machine(1);
            case 5 -> x.step(0, 0, 0, 0);
            case 6 -> x.good(0, 0, false);
            case 7 -> x.formula(SAME, 0, 0, 0, 0);
            case 8 -> x.deny(0, false);
            default -> x.leave(0, false);
        }
    }

    /** Calls that ask leave what is at hand. */
    private static void findingsStay() {
        TextSolver x = new TextSolver();
        x.text(2);
        termOf(x, "x");
        x.machine(2);
        x.formula(LONGER, 0, NONE, 1, 0);
        x.model(4);
        x.models();
        x.spans();
        x.meet(0, 0);
        x.core();
        x.told(5);
        x.holds(0);
        dueRow("terms: what asks leaves the model at hand", x, 0, "10");
    }

    private static void spans() {
        TextSolver x = new TextSolver();
        due("20 without texts", x.spans(), 1);
        x.text(5);
        x.text(3);
        due("20 all", x.spans(), 24);
        termOf(x, "x");
        termOf(x, "y");
        termOf(x, "y0");
        x.formula(LONGER, 0, 1, 1, 0);
        due("20 x longer than y", x.spans(), 5 + 4 + 3 + 2);
        x.deny(0, true);
        due("20 x not longer than y", x.spans(), 10);
        x.formula(SAME, 0, 2, 0, 0);
        due("20 x as long as y and one", x.spans(), 0);
        x.deny(0, false);
        due("20 x as long as y and one", x.spans(), 4);
        x.deny(1, true);
        due("20 a SAME that is denied counts for nothing", x.spans(), 14);
        x.deny(1, false);
        x.leave(1, true);
        due("20 a SAME that is left out", x.spans(), 14);
        x.leave(0, true);
        due("20 a LONGER that is left out", x.spans(), 24);
        x.formula(BEFORE, 0, 0, 0, 0);
        x.formula(HAS, 0, 2, 0, 0);
        due("20 other kinds count for nothing", x.spans(), 24);
        x.formula(LONGER, 2, NONE, 4, 0);
        due("20 longer than nothing", x.spans(), 6);

        x.clear(2);
        termOf(x, "01");
        termOf(x, "11");
        x.formula(SAME, 0, 1, 0, 0);
        due("20 one length, no model", x.spans() * 10 + x.models(), 10);
        x.formula(LONGER, 0, 1, 1, 0);
        due("20 no lengths without texts", x.spans(), 0);
    }

    private static void meetings() {
        TextSolver x = new TextSolver();
        due("21 no machine", x.meet(0, 0), UNKNOWN);
        // Machine 0 takes rows of 5 letters and 6 more, each time; machine 1 those of 4 and 5 more.
        ringOf(x, 6, 5);
        ringOf(x, 5, 4);
        due("21 alone", x.meet(0, 0), 5);
        due("21 rings of 6 and 5", x.meet(0, 1), 29);
        due("21 the other way round", x.meet(1, 0), 29);
        for (int odd : new int[] {LEAST, -1, 2, GREATEST}) {
            due("21 machine " + odd, x.meet(odd, 0), UNKNOWN);
            due("21 other " + odd, x.meet(0, odd), UNKNOWN);
        }
        x.machine(1);
        due("21 none is taken", x.meet(0, 2), NONE);
        due("21 none is taken", x.meet(2, 2), NONE);
        x.good(2, 0, true);
        due("21 all are taken", x.meet(0, 2), 5);
        due("21 nothing is taken", x.meet(2, 2), 0);

        x.clear(2);
        ringOf(x, 6, 1);
        ringOf(x, 4, 2);
        due("21 odd and even lengths", x.meet(0, 1), NONE);

        x.clear(3);
        x.machine(2);
        x.machine(2);
        x.step(0, 0, 2, 1);
        x.step(1, 0, 1, 1);
        x.good(0, 1, true);
        x.good(1, 1, true);
        due("21 each its own letter", x.meet(0, 1), NONE);
        x.step(1, 0, 2, 1);
        due("21 the third letter", x.meet(0, 1), 1);
        x.clear(2);
        x.machine(2);
        x.step(0, 0, 0, 1);
        x.good(0, 1, true);
        due("21 the first letter", x.meet(0, 0), 1);
    }

    private static void told() {
        TextSolver x = withLetters(3);
        x.text(2);
        x.text(1);
        x.term();
        x.term();
        x.term();
        x.machine(1);
        x.formula(SAME, 0, 0, 0, 0);
        x.formula(SAME, 0, 1, 0, 0);
        x.formula(SAME, 0, 2, 0, 0);
        x.formula(SAME, 1, 2, 0, 0);
        dueTold("22 told", x, 3, 2, 3, 1, 4, 52, 0);
        x.solve();
        dueTold("22 told", x, 3, 2, 3, 1, 4, 52, 1);
        for (int what : new int[] {LEAST, -1, 7, 8, GREATEST}) {
            due("22 told(" + what + ")", x.told(what), OUTSIDE);
        }
    }

    public static void main(String[] args) {
        test("1 a new object", PromiseTest::newObject);
        test("2 clear", PromiseTest::clearCalls);
        test("3 text", PromiseTest::texts);
        test("4 term", PromiseTest::terms);
        test("5 part", PromiseTest::parts);
        test("6 machine", PromiseTest::machines);
        test("7 step", PromiseTest::steps);
        test("8 good", PromiseTest::goods);
        test("9 formula: refusals", PromiseTest::formulaRefusals);
        test("9 formula: numbers", PromiseTest::formulaNumbers);
        test("9 formula: meanings", PromiseTest::formulaMeanings);
        test("9 formula: the longest terms", PromiseTest::longestTerms);
        test("9 formula: long sums", PromiseTest::longSums);
        test("9 formula: TAKEN", PromiseTest::taken);
        test("10 deny", PromiseTest::denials);
        test("11 leave", PromiseTest::leavings);
        test("12 solve", PromiseTest::solving);
        test("13 model", PromiseTest::modelOrder);
        test("14 models", PromiseTest::modelsAtTheEnd);
        test("15, 16 length and letter", PromiseTest::reading);
        test("17 holds", PromiseTest::holding);
        test("18, 19 core and inCore", PromiseTest::cores);
        test("terms: changes", PromiseTest::findingsGo);
        test("terms: questions", PromiseTest::findingsStay);
        test("20 spans", PromiseTest::spans);
        test("21 meet", PromiseTest::meetings);
        test("22 told", PromiseTest::told);
        end();
    }
}
